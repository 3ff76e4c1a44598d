set_option maxHeartbeats 4000000 in
theorem zl_13 (n : Nat) {a0 : Int} {m0 : zu_m} (hc0 : zcls a0 = 4)  : ∀ k : Nat, (∀ (x1 : Int) (mh : zu_m), zi_I mh → zfr [(4, 1), (4, 2), (4, 3), (4, 4), (4, 5), (4, 6), (5, 6), (5, 7), (30, 0), (31, 0), (32, 0), (35, 0), (36, 0)] m0 mh → (0 ≤ x1 ∧ x1 ≤ 48) → (0 ≤ mh a0 3 ∧ mh a0 3 ≤ 0) → (0 ≤ mh a0 4 ∧ mh a0 4 ≤ 0) → (0 ≤ mh a0 5 ∧ mh a0 5 ≤ 0) → (48 - x1) * 1 + 0 < (k : Int) → zw (zu_ex (zt_T n) 13 24 [(8, a0), (0, x1)] [] mh) (fun v m => zi_I m ∧ zfr [(4, 1), (4, 2), (4, 3), (4, 4), (4, 5), (4, 6), (5, 6), (5, 7), (30, 0), (31, 0), (32, 0), (35, 0), (36, 0)] m0 m ∧ True ∧ (0 ≤ m a0 3 ∧ m a0 3 ≤ 0) ∧ (0 ≤ m a0 4 ∧ m a0 4 ≤ 0) ∧ (0 ≤ m a0 5 ∧ m a0 5 ≤ 0))) := by
  intro k
  induction k with
  | zero => exact fun x1 mh hImh hFmh hbx1 hg1 hg2 hg3 hM => by exfalso; omega
  | succ k ih =>
    intro x1 mh hImh hFmh hbx1 hg1 hg2 hg3 hM
    refine zw_eq (zr_13_24 n a0 x1 mh) ?_
    refine zw_ite (fun h1 => ?_) (fun h1 => ?_)
    · refine zw_bd (zw_mono (zk_15_4 n hImh hc0 ⟨by omega, by omega⟩ ⟨by omega, by omega⟩) (fun v3 m2 hqm2 => ?_))
      obtain ⟨hIm2, hfm2, hvm2⟩ := hqm2
      have hFm2 := zfr_tr hFmh hfm2 rfl
      have r4 : 0 ≤ (m2 a0 3) ∧ (m2 a0 3) ≤ 6 := zi_rd hIm2 hc0 zb_4_3
      have e5 : (m2 a0 3) = (mh a0 3) := (zfr_ap hfm2 hc0 rfl)
      have r6 : 0 ≤ (m2 a0 4) ∧ (m2 a0 4) ≤ 99 := zi_rd hIm2 hc0 zb_4_4
      have e7 : (m2 a0 4) = (mh a0 4) := (zfr_ap hfm2 hc0 rfl)
      have r8 : 0 ≤ (m2 a0 5) ∧ (m2 a0 5) ≤ 99999 := zi_rd hIm2 hc0 zb_4_5
      have e9 : (m2 a0 5) = (mh a0 5) := (zfr_ap hfm2 hc0 rfl)
      exact zw_some ⟨hIm2, hFm2, trivial, ⟨by omega, by omega⟩, ⟨by omega, by omega⟩, ⟨by omega, by omega⟩⟩
    · have b10 : 0 ≤ x1 ∧ x1 < 48 := by omega
      refine zw_if b10 ?_
      generalize hmm11 : zu_up mh (a0 + 3) x1 0 = m11
      have hIm11 := zi_up hmm11 hImh (zc_4_8 hc0) (zb_32 _) (by omega) (by omega)
      have hFm11 := zfr_up hmm11 hFmh (zc_4_8 hc0) rfl
      have w12 := zu_w32_id (z := x1 + 1) (by omega) (by omega)
      have r13 : 0 ≤ (m11 a0 3) ∧ (m11 a0 3) ≤ 6 := zi_rd hIm11 hc0 zb_4_3
      have e14 : (m11 a0 3) = (mh a0 3) := (zs_ne hmm11 (Or.inl (zc_ne hc0 (zc_4_8 hc0) (by decide))))
      have r15 : 0 ≤ (m11 a0 4) ∧ (m11 a0 4) ≤ 99 := zi_rd hIm11 hc0 zb_4_4
      have e16 : (m11 a0 4) = (mh a0 4) := (zs_ne hmm11 (Or.inl (zc_ne hc0 (zc_4_8 hc0) (by decide))))
      have r17 : 0 ≤ (m11 a0 5) ∧ (m11 a0 5) ≤ 99999 := zi_rd hIm11 hc0 zb_4_5
      have e18 : (m11 a0 5) = (mh a0 5) := (zs_ne hmm11 (Or.inl (zc_ne hc0 (zc_4_8 hc0) (by decide))))
      have hM : (48 - (zu_w32 (x1 + 1))) * 1 + 0 < (k : Int) := by omega
      exact ih (zu_w32 (x1 + 1)) m11 hIm11 hFm11 ⟨by omega, by omega⟩ ⟨by omega, by omega⟩ ⟨by omega, by omega⟩ ⟨by omega, by omega⟩ hM
set_option maxHeartbeats 4000000 in
theorem zk_13 (n : Nat) {a0 : Int} {m0 : zu_m} (hIm0 : zi_I m0) (hc0 : zcls a0 = 4)      : zw (zu_call (zt_T n) 13 [(8, a0)] m0) (fun v m => zi_I m ∧ zfr [(4, 1), (4, 2), (4, 3), (4, 4), (4, 5), (4, 6), (5, 6), (5, 7), (30, 0), (31, 0), (32, 0), (35, 0), (36, 0)] m0 m ∧ True ∧ (0 ≤ m a0 3 ∧ m a0 3 ≤ 0) ∧ (0 ≤ m a0 4 ∧ m a0 4 ≤ 0) ∧ (0 ≤ m a0 5 ∧ m a0 5 ≤ 0)) := by
  have hFm0 : zfr [(4, 1), (4, 2), (4, 3), (4, 4), (4, 5), (4, 6), (5, 6), (5, 7), (30, 0), (31, 0), (32, 0), (35, 0), (36, 0)] m0 m0 := zfr_rf _ _
  refine zw_eq (zr_13_0 n a0 m0) ?_
  generalize hmm19 : zu_up m0 a0 3 0 = m19
  have hIm19 := zi_up hmm19 hIm0 hc0 zb_4_3 (by omega) (by omega)
  have hFm19 := zfr_up hmm19 hFm0 hc0 rfl
  generalize hmm20 : zu_up m19 a0 4 0 = m20
  have hIm20 := zi_up hmm20 hIm19 hc0 zb_4_4 (by omega) (by omega)
  have hFm20 := zfr_up hmm20 hFm19 hc0 rfl
  generalize hmm21 : zu_up m20 a0 5 0 = m21
  have hIm21 := zi_up hmm21 hIm20 hc0 zb_4_5 (by omega) (by omega)
  have hFm21 := zfr_up hmm21 hFm20 hc0 rfl
  refine zw_bd (zw_mono (zk_14 n hIm21 (zc_4_9 hc0)) (fun v23 m22 hqm22 => ?_))
  obtain ⟨hIm22, hfm22, hvm22⟩ := hqm22
  have hFm22 := zfr_tr hFm21 hfm22 rfl
  have r24 : 0 ≤ (m22 a0 3) ∧ (m22 a0 3) ≤ 6 := zi_rd hIm22 hc0 zb_4_3
  have e25 : (m22 a0 3) = 0 := (Eq.trans (zfr_ap hfm22 hc0 rfl) (Eq.trans (zs_ne hmm21 (Or.inr (by decide))) (Eq.trans (zs_ne hmm20 (Or.inr (by decide))) (zs_eq hmm19))))
  have r26 : 0 ≤ (m22 a0 4) ∧ (m22 a0 4) ≤ 99 := zi_rd hIm22 hc0 zb_4_4
  have e27 : (m22 a0 4) = 0 := (Eq.trans (zfr_ap hfm22 hc0 rfl) (Eq.trans (zs_ne hmm21 (Or.inr (by decide))) (zs_eq hmm20)))
  have r28 : 0 ≤ (m22 a0 5) ∧ (m22 a0 5) ≤ 99999 := zi_rd hIm22 hc0 zb_4_5
  have e29 : (m22 a0 5) = 0 := (Eq.trans (zfr_ap hfm22 hc0 rfl) (zs_eq hmm21))
  have hM : (48 - 0) * 1 + 0 < ((49 : Nat) : Int) := by omega
  exact (zl_13 n (m0 := m0) hc0 49) 0 m22 hIm22 hFm22 ⟨by omega, by omega⟩ ⟨by omega, by omega⟩ ⟨by omega, by omega⟩ ⟨by omega, by omega⟩ hM
set_option maxHeartbeats 4000000 in
theorem zl_18 (n : Nat) {a0 : Int} {m0 : zu_m} (hc0 : zcls a0 = 9)  : ∀ k : Nat, (∀ (mh : zu_m), zi_I mh → zfr [(9, 4), (9, 5), (9, 6), (9, 7)] m0 mh → (700 - (mh a0 3)) * 1 + 0 < (k : Int) → zw (zu_ex (zt_T n) 18 0 [(22, a0)] [] mh) (fun v m => zi_I m ∧ zfr [(9, 4), (9, 5), (9, 6), (9, 7)] m0 m ∧ True)) := by
  intro k
  induction k with
  | zero => exact fun mh hImh hFmh hM => by exfalso; omega
  | succ k ih =>
    intro mh hImh hFmh hM
    refine zw_eq (zr_18_0 n a0 mh) ?_
    have r1 : 0 ≤ (mh a0 3) ∧ (mh a0 3) ≤ 700 := zi_rd hImh hc0 zb_9_3
    have r2 : 0 ≤ (mh a0 2) ∧ (mh a0 2) ≤ 700 := zi_rd hImh hc0 zb_9_2
    refine zw_ite (fun h3 => ?_) (fun h3 => ?_)
    · generalize hmm4 : zu_up mh a0 6 (mh a0 3) = m4
      have hIm4 := zi_up hmm4 hImh hc0 zb_9_6 (by omega) (by omega)
      have hFm4 := zfr_up hmm4 hFmh hc0 rfl
      have r5 : 0 ≤ (m4 a0 3) ∧ (m4 a0 3) ≤ 700 := zi_rd hIm4 hc0 zb_9_3
      have e6 : (m4 a0 3) = (mh a0 3) := (zs_ne hmm4 (Or.inr (by decide)))
      have r7 : 0 ≤ (m4 a0 2) ∧ (m4 a0 2) ≤ 700 := zi_rd hIm4 hc0 zb_9_2
      have e8 : (m4 a0 2) = (mh a0 2) := (zs_ne hmm4 (Or.inr (by decide)))
      refine zw_ite (fun h9 => ?_) (fun h9 => ?_)
      · exfalso; omega
      · generalize hmm10 : zu_up m4 a0 4 0 = m10
        have hIm10 := zi_up hmm10 hIm4 hc0 zb_9_4 (by omega) (by omega)
        have hFm10 := zfr_up hmm10 hFm4 hc0 rfl
        exact zw_some ⟨hIm10, hFm10, trivial⟩
    · have b11 : 0 ≤ (mh a0 3) ∧ (mh a0 3) < 700 := by omega
      refine zw_if b11 ?_
      have r12 : (-2147483648) ≤ (mh 4 (mh a0 3)) ∧ (mh 4 (mh a0 3)) ≤ 2147483647 := zi_rd hImh zq_4 (zb_29 _)
      refine zw_ite (fun h13 => ?_) (fun h13 => ?_)
      · have w14 := zu_w32_id (z := (mh a0 3) + 1) (by omega) (by omega)
        generalize hmm15 : zu_up mh a0 3 (zu_w32 ((mh a0 3) + 1)) = m15
        have hIm15 := zi_up hmm15 hImh hc0 zb_9_3 (by omega) (by omega)
        have hFm15 := zfr_up hmm15 hFmh hc0 rfl
        have r16 : 0 ≤ (m15 a0 3) ∧ (m15 a0 3) ≤ 700 := zi_rd hIm15 hc0 zb_9_3
        have e17 : (m15 a0 3) = (zu_w32 ((mh a0 3) + 1)) := (zs_eq hmm15)
        have hM : (700 - (m15 a0 3)) * 1 + 0 < (k : Int) := by omega
        exact ih  m15 hIm15 hFm15  hM
      · have b18 : 0 ≤ (mh a0 3) ∧ (mh a0 3) < 700 := by omega
        refine zw_if b18 ?_
        refine zw_ite (fun h19 => ?_) (fun h19 => ?_)
        · generalize hmm20 : zu_up mh a0 6 (mh a0 3) = m20
          have hIm20 := zi_up hmm20 hImh hc0 zb_9_6 (by omega) (by omega)
          have hFm20 := zfr_up hmm20 hFmh hc0 rfl
          have r21 : 0 ≤ (m20 a0 3) ∧ (m20 a0 3) ≤ 700 := zi_rd hIm20 hc0 zb_9_3
          have e22 : (m20 a0 3) = (mh a0 3) := (zs_ne hmm20 (Or.inr (by decide)))
          have r23 : 0 ≤ (m20 a0 2) ∧ (m20 a0 2) ≤ 700 := zi_rd hIm20 hc0 zb_9_2
          have e24 : (m20 a0 2) = (mh a0 2) := (zs_ne hmm20 (Or.inr (by decide)))
          refine zw_ite (fun h25 => ?_) (fun h25 => ?_)
          · have b26 : 0 ≤ (m20 a0 3) ∧ (m20 a0 3) < 700 := by omega
            refine zw_if b26 ?_
            have r27 : (-2147483648) ≤ (m20 4 (m20 a0 3)) ∧ (m20 4 (m20 a0 3)) ≤ 2147483647 := zi_rd hIm20 zq_4 (zb_29 _)
            refine zw_ite (fun h28 => ?_) (fun h28 => ?_)
            · have b29 : 0 ≤ (m20 a0 3) ∧ (m20 a0 3) < 700 := by omega
              refine zw_if b29 ?_
              refine zw_ite (fun h30 => ?_) (fun h30 => ?_)
              · have b31 : 0 ≤ (m20 a0 3) ∧ (m20 a0 3) < 700 := by omega
                refine zw_if b31 ?_
                refine zw_bd (zw_mono (zk_283 n hIm20 ⟨by omega, by omega⟩) (fun v33 m32 hqm32 => ?_))
                obtain ⟨hIm32, hfm32, hvm32⟩ := hqm32
                have hFm32 := zfr_tr hFm20 hfm32 rfl
                generalize hmm34 : zu_up m32 a0 5 v33 = m34
                have hIm34 := zi_up hmm34 hIm32 hc0 zb_9_5 (by omega) (by omega)
                have hFm34 := zfr_up hmm34 hFm32 hc0 rfl
                have r35 : (-2147483648) ≤ (m34 a0 5) ∧ (m34 a0 5) ≤ 2147483647 := zi_rd hIm34 hc0 zb_9_5
                have e36 : (m34 a0 5) = v33 := (zs_eq hmm34)
                refine zw_ite (fun h37 => ?_) (fun h37 => ?_)
                · generalize hmm38 : zu_up m34 a0 4 4 = m38
                  have hIm38 := zi_up hmm38 hIm34 hc0 zb_9_4 (by omega) (by omega)
                  have hFm38 := zfr_up hmm38 hFm34 hc0 rfl
                  have r39 : 0 ≤ (m38 a0 3) ∧ (m38 a0 3) ≤ 700 := zi_rd hIm38 hc0 zb_9_3
                  have e40 : (m38 a0 3) = (m20 a0 3) := (Eq.trans (zs_ne hmm38 (Or.inr (by decide))) (Eq.trans (zs_ne hmm34 (Or.inr (by decide))) (zfr_ap hfm32 hc0 rfl)))
                  have w41 := zu_w32_id (z := (m38 a0 3) + 1) (by omega) (by omega)
                  generalize hmm42 : zu_up m38 a0 3 (zu_w32 ((m38 a0 3) + 1)) = m42
                  have hIm42 := zi_up hmm42 hIm38 hc0 zb_9_3 (by omega) (by omega)
                  have hFm42 := zfr_up hmm42 hFm38 hc0 rfl
                  have r43 : 0 ≤ (m42 a0 3) ∧ (m42 a0 3) ≤ 700 := zi_rd hIm42 hc0 zb_9_3
                  have e44 : (m42 a0 3) = (zu_w32 ((m38 a0 3) + 1)) := (zs_eq hmm42)
                  have r45 : 0 ≤ (m42 a0 2) ∧ (m42 a0 2) ≤ 700 := zi_rd hIm42 hc0 zb_9_2
                  have e46 : (m42 a0 2) = (m20 a0 2) := (Eq.trans (zs_ne hmm42 (Or.inr (by decide))) (Eq.trans (zs_ne hmm38 (Or.inr (by decide))) (Eq.trans (zs_ne hmm34 (Or.inr (by decide))) (zfr_ap hfm32 hc0 rfl))))
                  have r47 : (-2147483648) ≤ (m42 a0 5) ∧ (m42 a0 5) ≤ 2147483647 := zi_rd hIm42 hc0 zb_9_5
                  have e48 : (m42 a0 5) = (m34 a0 5) := (Eq.trans (zs_ne hmm42 (Or.inr (by decide))) (zs_ne hmm38 (Or.inr (by decide))))
                  refine zw_bd (zw_mono (zk_282 n hIm42 hc0 ⟨by omega, by omega⟩ ⟨by omega, by omega⟩ ⟨by omega, by omega⟩) (fun v50 m49 hqm49 => ?_))
                  obtain ⟨hIm49, hfm49, hvm49⟩ := hqm49
                  have hFm49 := zfr_tr hFm42 hfm49 rfl
                  exact zw_some ⟨hIm49, hFm49, trivial⟩
                · generalize hmm51 : zu_up m34 a0 4 5 = m51
                  have hIm51 := zi_up hmm51 hIm34 hc0 zb_9_4 (by omega) (by omega)
                  have hFm51 := zfr_up hmm51 hFm34 hc0 rfl
                  have r52 : 0 ≤ (m51 a0 3) ∧ (m51 a0 3) ≤ 700 := zi_rd hIm51 hc0 zb_9_3
                  have e53 : (m51 a0 3) = (m20 a0 3) := (Eq.trans (zs_ne hmm51 (Or.inr (by decide))) (Eq.trans (zs_ne hmm34 (Or.inr (by decide))) (zfr_ap hfm32 hc0 rfl)))
                  have w54 := zu_w32_id (z := (m51 a0 3) + 1) (by omega) (by omega)
                  generalize hmm55 : zu_up m51 a0 3 (zu_w32 ((m51 a0 3) + 1)) = m55
                  have hIm55 := zi_up hmm55 hIm51 hc0 zb_9_3 (by omega) (by omega)
                  have hFm55 := zfr_up hmm55 hFm51 hc0 rfl
                  have r56 : 0 ≤ (m55 a0 3) ∧ (m55 a0 3) ≤ 700 := zi_rd hIm55 hc0 zb_9_3
                  have e57 : (m55 a0 3) = (zu_w32 ((m51 a0 3) + 1)) := (zs_eq hmm55)
                  have r58 : 0 ≤ (m55 a0 2) ∧ (m55 a0 2) ≤ 700 := zi_rd hIm55 hc0 zb_9_2
                  have e59 : (m55 a0 2) = (m20 a0 2) := (Eq.trans (zs_ne hmm55 (Or.inr (by decide))) (Eq.trans (zs_ne hmm51 (Or.inr (by decide))) (Eq.trans (zs_ne hmm34 (Or.inr (by decide))) (zfr_ap hfm32 hc0 rfl))))
                  have r60 : (-2147483648) ≤ (m55 a0 5) ∧ (m55 a0 5) ≤ 2147483647 := zi_rd hIm55 hc0 zb_9_5
                  have e61 : (m55 a0 5) = (m34 a0 5) := (Eq.trans (zs_ne hmm55 (Or.inr (by decide))) (zs_ne hmm51 (Or.inr (by decide))))
                  refine zw_bd (zw_mono (zk_282 n hIm55 hc0 ⟨by omega, by omega⟩ ⟨by omega, by omega⟩ ⟨by omega, by omega⟩) (fun v63 m62 hqm62 => ?_))
                  obtain ⟨hIm62, hfm62, hvm62⟩ := hqm62
                  have hFm62 := zfr_tr hFm55 hfm62 rfl
                  exact zw_some ⟨hIm62, hFm62, trivial⟩
              · have b64 : 0 ≤ (m20 a0 3) ∧ (m20 a0 3) < 700 := by omega
                refine zw_if b64 ?_
                refine zw_ite (fun h65 => ?_) (fun h65 => ?_)
                · have b66 : 0 ≤ (m20 a0 3) ∧ (m20 a0 3) < 700 := by omega
                  refine zw_if b66 ?_
                  refine zw_bd (zw_mono (zk_283 n hIm20 ⟨by omega, by omega⟩) (fun v68 m67 hqm67 => ?_))
                  obtain ⟨hIm67, hfm67, hvm67⟩ := hqm67
                  have hFm67 := zfr_tr hFm20 hfm67 rfl
                  generalize hmm69 : zu_up m67 a0 5 v68 = m69
                  have hIm69 := zi_up hmm69 hIm67 hc0 zb_9_5 (by omega) (by omega)
                  have hFm69 := zfr_up hmm69 hFm67 hc0 rfl
                  have r70 : (-2147483648) ≤ (m69 a0 5) ∧ (m69 a0 5) ≤ 2147483647 := zi_rd hIm69 hc0 zb_9_5
                  have e71 : (m69 a0 5) = v68 := (zs_eq hmm69)
                  refine zw_ite (fun h72 => ?_) (fun h72 => ?_)
                  · generalize hmm73 : zu_up m69 a0 4 4 = m73
                    have hIm73 := zi_up hmm73 hIm69 hc0 zb_9_4 (by omega) (by omega)
                    have hFm73 := zfr_up hmm73 hFm69 hc0 rfl
                    have r74 : 0 ≤ (m73 a0 3) ∧ (m73 a0 3) ≤ 700 := zi_rd hIm73 hc0 zb_9_3
                    have e75 : (m73 a0 3) = (m20 a0 3) := (Eq.trans (zs_ne hmm73 (Or.inr (by decide))) (Eq.trans (zs_ne hmm69 (Or.inr (by decide))) (zfr_ap hfm67 hc0 rfl)))
                    have w76 := zu_w32_id (z := (m73 a0 3) + 1) (by omega) (by omega)
                    generalize hmm77 : zu_up m73 a0 3 (zu_w32 ((m73 a0 3) + 1)) = m77
                    have hIm77 := zi_up hmm77 hIm73 hc0 zb_9_3 (by omega) (by omega)
                    have hFm77 := zfr_up hmm77 hFm73 hc0 rfl
                    have r78 : 0 ≤ (m77 a0 3) ∧ (m77 a0 3) ≤ 700 := zi_rd hIm77 hc0 zb_9_3
                    have e79 : (m77 a0 3) = (zu_w32 ((m73 a0 3) + 1)) := (zs_eq hmm77)
                    have r80 : 0 ≤ (m77 a0 2) ∧ (m77 a0 2) ≤ 700 := zi_rd hIm77 hc0 zb_9_2
                    have e81 : (m77 a0 2) = (m20 a0 2) := (Eq.trans (zs_ne hmm77 (Or.inr (by decide))) (Eq.trans (zs_ne hmm73 (Or.inr (by decide))) (Eq.trans (zs_ne hmm69 (Or.inr (by decide))) (zfr_ap hfm67 hc0 rfl))))
                    have r82 : (-2147483648) ≤ (m77 a0 5) ∧ (m77 a0 5) ≤ 2147483647 := zi_rd hIm77 hc0 zb_9_5
                    have e83 : (m77 a0 5) = (m69 a0 5) := (Eq.trans (zs_ne hmm77 (Or.inr (by decide))) (zs_ne hmm73 (Or.inr (by decide))))
                    refine zw_bd (zw_mono (zk_282 n hIm77 hc0 ⟨by omega, by omega⟩ ⟨by omega, by omega⟩ ⟨by omega, by omega⟩) (fun v85 m84 hqm84 => ?_))
                    obtain ⟨hIm84, hfm84, hvm84⟩ := hqm84
                    have hFm84 := zfr_tr hFm77 hfm84 rfl
                    exact zw_some ⟨hIm84, hFm84, trivial⟩
                  · generalize hmm86 : zu_up m69 a0 4 5 = m86
                    have hIm86 := zi_up hmm86 hIm69 hc0 zb_9_4 (by omega) (by omega)
                    have hFm86 := zfr_up hmm86 hFm69 hc0 rfl
                    have r87 : 0 ≤ (m86 a0 3) ∧ (m86 a0 3) ≤ 700 := zi_rd hIm86 hc0 zb_9_3
                    have e88 : (m86 a0 3) = (m20 a0 3) := (Eq.trans (zs_ne hmm86 (Or.inr (by decide))) (Eq.trans (zs_ne hmm69 (Or.inr (by decide))) (zfr_ap hfm67 hc0 rfl)))
                    have w89 := zu_w32_id (z := (m86 a0 3) + 1) (by omega) (by omega)
                    generalize hmm90 : zu_up m86 a0 3 (zu_w32 ((m86 a0 3) + 1)) = m90
                    have hIm90 := zi_up hmm90 hIm86 hc0 zb_9_3 (by omega) (by omega)
                    have hFm90 := zfr_up hmm90 hFm86 hc0 rfl
                    have r91 : 0 ≤ (m90 a0 3) ∧ (m90 a0 3) ≤ 700 := zi_rd hIm90 hc0 zb_9_3
                    have e92 : (m90 a0 3) = (zu_w32 ((m86 a0 3) + 1)) := (zs_eq hmm90)
                    have r93 : 0 ≤ (m90 a0 2) ∧ (m90 a0 2) ≤ 700 := zi_rd hIm90 hc0 zb_9_2
                    have e94 : (m90 a0 2) = (m20 a0 2) := (Eq.trans (zs_ne hmm90 (Or.inr (by decide))) (Eq.trans (zs_ne hmm86 (Or.inr (by decide))) (Eq.trans (zs_ne hmm69 (Or.inr (by decide))) (zfr_ap hfm67 hc0 rfl))))
                    have r95 : (-2147483648) ≤ (m90 a0 5) ∧ (m90 a0 5) ≤ 2147483647 := zi_rd hIm90 hc0 zb_9_5
                    have e96 : (m90 a0 5) = (m69 a0 5) := (Eq.trans (zs_ne hmm90 (Or.inr (by decide))) (zs_ne hmm86 (Or.inr (by decide))))
                    refine zw_bd (zw_mono (zk_282 n hIm90 hc0 ⟨by omega, by omega⟩ ⟨by omega, by omega⟩ ⟨by omega, by omega⟩) (fun v98 m97 hqm97 => ?_))
                    obtain ⟨hIm97, hfm97, hvm97⟩ := hqm97
                    have hFm97 := zfr_tr hFm90 hfm97 rfl
                    exact zw_some ⟨hIm97, hFm97, trivial⟩
                · refine zw_bd (zw_mono (zk_281 n hIm20 hc0) (fun v100 m99 hqm99 => ?_))
                  obtain ⟨hIm99, hfm99, hvm99⟩ := hqm99
                  have hFm99 := zfr_tr hFm20 hfm99 rfl
                  exact zw_some ⟨hIm99, hFm99, trivial⟩
            · have b101 : 0 ≤ (m20 a0 3) ∧ (m20 a0 3) < 700 := by omega
              refine zw_if b101 ?_
              refine zw_ite (fun h102 => ?_) (fun h102 => ?_)
              · have b103 : 0 ≤ (m20 a0 3) ∧ (m20 a0 3) < 700 := by omega
                refine zw_if b103 ?_
                refine zw_ite (fun h104 => ?_) (fun h104 => ?_)
                · exfalso; omega
                · have b105 : 0 ≤ (m20 a0 3) ∧ (m20 a0 3) < 700 := by omega
                  refine zw_if b105 ?_
                  refine zw_ite (fun h106 => ?_) (fun h106 => ?_)
                  · have b107 : 0 ≤ (m20 a0 3) ∧ (m20 a0 3) < 700 := by omega
                    refine zw_if b107 ?_
                    refine zw_bd (zw_mono (zk_283 n hIm20 ⟨by omega, by omega⟩) (fun v109 m108 hqm108 => ?_))
                    obtain ⟨hIm108, hfm108, hvm108⟩ := hqm108
                    have hFm108 := zfr_tr hFm20 hfm108 rfl
                    generalize hmm110 : zu_up m108 a0 5 v109 = m110
                    have hIm110 := zi_up hmm110 hIm108 hc0 zb_9_5 (by omega) (by omega)
                    have hFm110 := zfr_up hmm110 hFm108 hc0 rfl
                    have r111 : (-2147483648) ≤ (m110 a0 5) ∧ (m110 a0 5) ≤ 2147483647 := zi_rd hIm110 hc0 zb_9_5
                    have e112 : (m110 a0 5) = v109 := (zs_eq hmm110)
                    refine zw_ite (fun h113 => ?_) (fun h113 => ?_)
                    · generalize hmm114 : zu_up m110 a0 4 4 = m114
                      have hIm114 := zi_up hmm114 hIm110 hc0 zb_9_4 (by omega) (by omega)
                      have hFm114 := zfr_up hmm114 hFm110 hc0 rfl
                      have r115 : 0 ≤ (m114 a0 3) ∧ (m114 a0 3) ≤ 700 := zi_rd hIm114 hc0 zb_9_3
                      have e116 : (m114 a0 3) = (m20 a0 3) := (Eq.trans (zs_ne hmm114 (Or.inr (by decide))) (Eq.trans (zs_ne hmm110 (Or.inr (by decide))) (zfr_ap hfm108 hc0 rfl)))
                      have w117 := zu_w32_id (z := (m114 a0 3) + 1) (by omega) (by omega)
                      generalize hmm118 : zu_up m114 a0 3 (zu_w32 ((m114 a0 3) + 1)) = m118
                      have hIm118 := zi_up hmm118 hIm114 hc0 zb_9_3 (by omega) (by omega)
                      have hFm118 := zfr_up hmm118 hFm114 hc0 rfl
                      have r119 : 0 ≤ (m118 a0 3) ∧ (m118 a0 3) ≤ 700 := zi_rd hIm118 hc0 zb_9_3
                      have e120 : (m118 a0 3) = (zu_w32 ((m114 a0 3) + 1)) := (zs_eq hmm118)
                      have r121 : 0 ≤ (m118 a0 2) ∧ (m118 a0 2) ≤ 700 := zi_rd hIm118 hc0 zb_9_2
                      have e122 : (m118 a0 2) = (m20 a0 2) := (Eq.trans (zs_ne hmm118 (Or.inr (by decide))) (Eq.trans (zs_ne hmm114 (Or.inr (by decide))) (Eq.trans (zs_ne hmm110 (Or.inr (by decide))) (zfr_ap hfm108 hc0 rfl))))
                      have r123 : (-2147483648) ≤ (m118 a0 5) ∧ (m118 a0 5) ≤ 2147483647 := zi_rd hIm118 hc0 zb_9_5
                      have e124 : (m118 a0 5) = (m110 a0 5) := (Eq.trans (zs_ne hmm118 (Or.inr (by decide))) (zs_ne hmm114 (Or.inr (by decide))))
                      refine zw_bd (zw_mono (zk_282 n hIm118 hc0 ⟨by omega, by omega⟩ ⟨by omega, by omega⟩ ⟨by omega, by omega⟩) (fun v126 m125 hqm125 => ?_))
                      obtain ⟨hIm125, hfm125, hvm125⟩ := hqm125
                      have hFm125 := zfr_tr hFm118 hfm125 rfl
                      exact zw_some ⟨hIm125, hFm125, trivial⟩
                    · generalize hmm127 : zu_up m110 a0 4 5 = m127
                      have hIm127 := zi_up hmm127 hIm110 hc0 zb_9_4 (by omega) (by omega)
                      have hFm127 := zfr_up hmm127 hFm110 hc0 rfl
                      have r128 : 0 ≤ (m127 a0 3) ∧ (m127 a0 3) ≤ 700 := zi_rd hIm127 hc0 zb_9_3
                      have e129 : (m127 a0 3) = (m20 a0 3) := (Eq.trans (zs_ne hmm127 (Or.inr (by decide))) (Eq.trans (zs_ne hmm110 (Or.inr (by decide))) (zfr_ap hfm108 hc0 rfl)))
                      have w130 := zu_w32_id (z := (m127 a0 3) + 1) (by omega) (by omega)
                      generalize hmm131 : zu_up m127 a0 3 (zu_w32 ((m127 a0 3) + 1)) = m131
                      have hIm131 := zi_up hmm131 hIm127 hc0 zb_9_3 (by omega) (by omega)
                      have hFm131 := zfr_up hmm131 hFm127 hc0 rfl
                      have r132 : 0 ≤ (m131 a0 3) ∧ (m131 a0 3) ≤ 700 := zi_rd hIm131 hc0 zb_9_3
                      have e133 : (m131 a0 3) = (zu_w32 ((m127 a0 3) + 1)) := (zs_eq hmm131)
                      have r134 : 0 ≤ (m131 a0 2) ∧ (m131 a0 2) ≤ 700 := zi_rd hIm131 hc0 zb_9_2
                      have e135 : (m131 a0 2) = (m20 a0 2) := (Eq.trans (zs_ne hmm131 (Or.inr (by decide))) (Eq.trans (zs_ne hmm127 (Or.inr (by decide))) (Eq.trans (zs_ne hmm110 (Or.inr (by decide))) (zfr_ap hfm108 hc0 rfl))))
                      have r136 : (-2147483648) ≤ (m131 a0 5) ∧ (m131 a0 5) ≤ 2147483647 := zi_rd hIm131 hc0 zb_9_5
                      have e137 : (m131 a0 5) = (m110 a0 5) := (Eq.trans (zs_ne hmm131 (Or.inr (by decide))) (zs_ne hmm127 (Or.inr (by decide))))
                      refine zw_bd (zw_mono (zk_282 n hIm131 hc0 ⟨by omega, by omega⟩ ⟨by omega, by omega⟩ ⟨by omega, by omega⟩) (fun v139 m138 hqm138 => ?_))
                      obtain ⟨hIm138, hfm138, hvm138⟩ := hqm138
                      have hFm138 := zfr_tr hFm131 hfm138 rfl
                      exact zw_some ⟨hIm138, hFm138, trivial⟩
                  · exfalso; omega
              · have r140 : 0 ≤ (m20 a0 6) ∧ (m20 a0 6) ≤ 700 := zi_rd hIm20 hc0 zb_9_6
                have e141 : (m20 a0 6) = (mh a0 3) := (zs_eq hmm20)
                refine zw_bd (zw_mono (zk_280 n hIm20 hc0 ⟨by omega, by omega⟩ ⟨by omega, by omega⟩ ⟨by omega, by omega⟩) (fun v143 m142 hqm142 => ?_))
                obtain ⟨hIm142, hfm142, hvm142⟩ := hqm142
                have hFm142 := zfr_tr hFm20 hfm142 rfl
                exact zw_some ⟨hIm142, hFm142, trivial⟩
          · generalize hmm144 : zu_up m20 a0 4 0 = m144
            have hIm144 := zi_up hmm144 hIm20 hc0 zb_9_4 (by omega) (by omega)
            have hFm144 := zfr_up hmm144 hFm20 hc0 rfl
            exact zw_some ⟨hIm144, hFm144, trivial⟩
        · have w145 := zu_w32_id (z := (mh a0 3) + 1) (by omega) (by omega)
          generalize hmm146 : zu_up mh a0 3 (zu_w32 ((mh a0 3) + 1)) = m146
          have hIm146 := zi_up hmm146 hImh hc0 zb_9_3 (by omega) (by omega)
          have hFm146 := zfr_up hmm146 hFmh hc0 rfl
          have r147 : 0 ≤ (m146 a0 3) ∧ (m146 a0 3) ≤ 700 := zi_rd hIm146 hc0 zb_9_3
          have e148 : (m146 a0 3) = (zu_w32 ((mh a0 3) + 1)) := (zs_eq hmm146)
          have hM : (700 - (m146 a0 3)) * 1 + 0 < (k : Int) := by omega
          exact ih  m146 hIm146 hFm146  hM
set_option maxHeartbeats 4000000 in
theorem zk_18 (n : Nat) {a0 : Int} {m0 : zu_m} (hIm0 : zi_I m0) (hc0 : zcls a0 = 9)      : zw (zu_call (zt_T n) 18 [(22, a0)] m0) (fun v m => zi_I m ∧ zfr [(9, 4), (9, 5), (9, 6), (9, 7)] m0 m ∧ True) := by
  have hFm0 : zfr [(9, 4), (9, 5), (9, 6), (9, 7)] m0 m0 := zfr_rf _ _
  show zw (zu_ex (zt_T n) 18 0 [(22, a0)] [] m0) _
  have r149 : 0 ≤ (m0 a0 3) ∧ (m0 a0 3) ≤ 700 := zi_rd hIm0 hc0 zb_9_3
  have hM : (700 - (m0 a0 3)) * 1 + 0 < ((701 : Nat) : Int) := by omega
  exact (zl_18 n (m0 := m0) hc0 701)  m0 hIm0 hFm0  hM
set_option maxHeartbeats 4000000 in
theorem zk_20 (n : Nat) {a0 a1 : Int} {m0 : zu_m} (hIm0 : zi_I m0) (hc0 : zcls a0 = 11) (hc1 : zcls a1 = 4)     (hRK10m0 : zR_K10 m0) : zw (zu_call (zt_T n) 20 [(8, a0), (8, a1)] m0) (fun v m => zi_I m ∧ zfr [(11, 1), (11, 2), (11, 3), (11, 4), (11, 5), (11, 6), (12, 6), (12, 7), (49, 0), (50, 0), (51, 0), (52, 0), (53, 0), (54, 0), (55, 0)] m0 m ∧ zR_K10 m ∧ zR_K54 m ∧ True) := by
  have hFm0 : zfr [(11, 1), (11, 2), (11, 3), (11, 4), (11, 5), (11, 6), (12, 6), (12, 7), (49, 0), (50, 0), (51, 0), (52, 0), (53, 0), (54, 0), (55, 0)] m0 m0 := zfr_rf _ _
  refine zw_eq (zr_20_0 n a0 a1 m0) ?_
  have r1 : 0 ≤ (m0 a1 3) ∧ (m0 a1 3) ≤ 6 := zi_rd hIm0 hc1 zb_4_3
  generalize hmm2 : zu_up m0 a0 3 (m0 a1 3) = m2
  have hIm2 := zi_up hmm2 hIm0 hc0 zb_11_3 (by omega) (by omega)
  have hFm2 := zfr_up hmm2 hFm0 hc0 rfl
  have hRK10m2 := zR_K10_fr (zdis_fr (zfr_up hmm2 (zfr_rf [(11, 4)] _) hc0 rfl) rfl) hRK10m0
  have r3 : 0 ≤ (m2 a1 4) ∧ (m2 a1 4) ≤ 99 := zi_rd hIm2 hc1 zb_4_4
  generalize hmm4 : zu_up m2 a0 4 (m2 a1 4) = m4
  have hIm4 := zi_up hmm4 hIm2 hc0 zb_11_4 (by omega) (by omega)
  have hFm4 := zfr_up hmm4 hFm2 hc0 rfl
  have hRK10m4 := zR_K10_fr (zdis_fr (zfr_up hmm4 (zfr_rf [(11, 5)] _) hc0 rfl) rfl) hRK10m2
  have r5 : 0 ≤ (m4 a1 5) ∧ (m4 a1 5) ≤ 99999 := zi_rd hIm4 hc1 zb_4_5
  generalize hmm6 : zu_up m4 a0 5 (m4 a1 5) = m6
  have hIm6 := zi_up hmm6 hIm4 hc0 zb_11_5 (by omega) (by omega)
  have hFm6 := zfr_up hmm6 hFm4 hc0 rfl
  have hRK10m6 := zR_K10_fr (zdis_fr (zfr_up hmm6 (zfr_rf [(11, 6)] _) hc0 rfl) rfl) hRK10m4
  refine zw_bd (zw_mono (zk_21 n hIm6 (zc_11_9 hc0) (zc_4_9 hc1) hRK10m6) (fun v8 m7 hqm7 => ?_))
  obtain ⟨hIm7, hfm7, hvm7⟩ := hqm7
  have hFm7 := zfr_tr hFm6 hfm7 rfl
  obtain ⟨hRK10m7, hRK54m7, hvm7⟩ := hvm7
  refine zw_if (by omega) ?_
  generalize hmm9 : zu_cp m7 (a1 + 3) 0 (a0 + 3) 0 48 = m9
  have hIm9 := zi_cp hmm9 hIm7 (zc_4_8 hc1) (zc_11_8 hc0) zb_32 zb_51 (by decide) (by decide)
  have hFm9 := zfr_cp hmm9 hFm7 (zc_11_8 hc0) (fun _ => rfl)
  have hfm9 : zfr [(51, 0)] m7 m9 := zfr_cp hmm9 (zfr_rf _ _) (zc_11_8 hc0) (fun _ => rfl)
  have hRK10m9 := zR_K10_fr (zdis_fr hfm9 rfl) hRK10m7
  have hRK54m9 := zR_K54_fr (zdis_fr hfm9 rfl) hRK54m7
  have r10 : 1 ≤ (m9 a1 0) ∧ (m9 a1 0) ≤ 8 := zi_rd hIm9 hc1 zb_4_0
  have r11 : 1 ≤ (m9 a1 1) ∧ (m9 a1 1) ≤ 6 := zi_rd hIm9 hc1 zb_4_1
  refine zw_bd (zw_mono (zk_15_11 n hIm9 hc0 ⟨by omega, by omega⟩ ⟨by omega, by omega⟩) (fun v13 m12 hqm12 => ?_))
  obtain ⟨hIm12, hfm12, hvm12⟩ := hqm12
  have hFm12 := zfr_tr hFm9 hfm12 rfl
  have hRK10m12 := zR_K10_fr (zdis_fr hfm12 rfl) hRK10m9
  have hRK54m12 := zR_K54_fr (zdis_fr hfm12 rfl) hRK54m9
  exact zw_some ⟨hIm12, hFm12, hRK10m12, hRK54m12, trivial⟩
set_option maxHeartbeats 4000000 in
theorem zl_22_13_6 (n : Nat) {a0 a1 : Int} {m0 : zu_m} (hc0 : zcls a0 = 13) (hc1 : zcls a1 = 6)  : ∀ k : Nat, (∀ (x2 : Int) (mh : zu_m), zi_I mh → zfr [(13, 3), (13, 5), (13, 9), (13, 10), (13, 11), (13, 12), (14, 1), (14, 2), (14, 3), (14, 4), (15, 1), (15, 2), (15, 3), (15, 4), (15, 5), (15, 6), (15, 7), (15, 8), (62, 0), (63, 0)] m0 mh → (0 ≤ x2 ∧ x2 ≤ 16) → (16 - x2) * 1 + 54 < (k : Int) → zw (zu_ex (zt_T n) 22 10 [(27, a0), (16, a1), (0, x2)] [] mh) (fun v m => zi_I m ∧ zfr [(13, 3), (13, 5), (13, 9), (13, 10), (13, 11), (13, 12), (14, 1), (14, 2), (14, 3), (14, 4), (15, 1), (15, 2), (15, 3), (15, 4), (15, 5), (15, 6), (15, 7), (15, 8), (62, 0), (63, 0)] m0 m ∧ True)) ∧ (∀ (x2 : Int) (mh : zu_m), zi_I mh → zfr [(13, 3), (13, 5), (13, 9), (13, 10), (13, 11), (13, 12), (14, 1), (14, 2), (14, 3), (14, 4), (15, 1), (15, 2), (15, 3), (15, 4), (15, 5), (15, 6), (15, 7), (15, 8), (62, 0), (63, 0)] m0 mh → (0 ≤ x2 ∧ x2 ≤ 4) → (4 - x2) * 1 + 49 < (k : Int) → zw (zu_ex (zt_T n) 22 49 [(27, a0), (16, a1), (0, x2)] [] mh) (fun v m => zi_I m ∧ zfr [(13, 3), (13, 5), (13, 9), (13, 10), (13, 11), (13, 12), (14, 1), (14, 2), (14, 3), (14, 4), (15, 1), (15, 2), (15, 3), (15, 4), (15, 5), (15, 6), (15, 7), (15, 8), (62, 0), (63, 0)] m0 m ∧ True)) ∧ (∀ (x2 : Int) (mh : zu_m), zi_I mh → zfr [(13, 3), (13, 5), (13, 9), (13, 10), (13, 11), (13, 12), (14, 1), (14, 2), (14, 3), (14, 4), (15, 1), (15, 2), (15, 3), (15, 4), (15, 5), (15, 6), (15, 7), (15, 8), (62, 0), (63, 0)] m0 mh → (0 ≤ x2 ∧ x2 ≤ 48) → (48 - x2) * 1 + 0 < (k : Int) → zw (zu_ex (zt_T n) 22 80 [(27, a0), (16, a1), (0, x2)] [] mh) (fun v m => zi_I m ∧ zfr [(13, 3), (13, 5), (13, 9), (13, 10), (13, 11), (13, 12), (14, 1), (14, 2), (14, 3), (14, 4), (15, 1), (15, 2), (15, 3), (15, 4), (15, 5), (15, 6), (15, 7), (15, 8), (62, 0), (63, 0)] m0 m ∧ True)) := by
  intro k
  induction k with
  | zero => exact ⟨fun x2 mh hImh hFmh hbx2 hM => by exfalso; omega, fun x2 mh hImh hFmh hbx2 hM => by exfalso; omega, fun x2 mh hImh hFmh hbx2 hM => by exfalso; omega⟩
  | succ k ih =>
    refine ⟨?_, ?_, ?_⟩
    · intro x2 mh hImh hFmh hbx2 hM
      refine zw_eq (zr_22_10 n a0 a1 x2 mh) ?_
      have r1 : 0 ≤ (mh a0 2) ∧ (mh a0 2) ≤ 16 := zi_rd hImh hc0 zb_13_2
      refine zw_ite (fun h2 => ?_) (fun h2 => ?_)
      · have r3 : 0 ≤ (mh a1 4) ∧ (mh a1 4) ≤ 4 := zi_rd hImh hc1 zb_6_4
        generalize hmm4 : zu_up mh a0 4 (mh a1 4) = m4
        have hIm4 := zi_up hmm4 hImh hc0 zb_13_4 (by omega) (by omega)
        have hFm4 := zfr_up hmm4 hFmh hc0 rfl
        have hM : (4 - 0) * 1 + 49 < (k : Int) := by omega
        exact ih.2.1 0 m4 hIm4 hFm4 ⟨by omega, by omega⟩ hM
      · have b5 : 0 ≤ x2 ∧ x2 < 16 := by omega
        refine zw_if b5 ?_
        have b6 : 0 ≤ x2 ∧ x2 < 16 := by omega
        refine zw_if b6 ?_
        refine zw_bd (zw_mono (zk_197_14_7 n hImh (zc_60_e (zc_13_1 hc0) b5) (zc_41_e zq_20 b6)) (fun v8 m7 hqm7 => ?_))
        obtain ⟨hIm7, hfm7, hvm7⟩ := hqm7
        have hFm7 := zfr_tr hFmh hfm7 rfl
        have w9 := zu_w32_id (z := x2 + 1) (by omega) (by omega)
        have hM : (16 - (zu_w32 (x2 + 1))) * 1 + 54 < (k : Int) := by omega
        exact ih.1 (zu_w32 (x2 + 1)) m7 hIm7 hFm7 ⟨by omega, by omega⟩ hM
    · intro x2 mh hImh hFmh hbx2 hM
      refine zw_eq (zr_22_49 n a0 a1 x2 mh) ?_
      have r10 : 0 ≤ (mh a0 4) ∧ (mh a0 4) ≤ 4 := zi_rd hImh hc0 zb_13_4
      refine zw_ite (fun h11 => ?_) (fun h11 => ?_)
      · have hM : (48 - 0) * 1 + 0 < (k : Int) := by omega
        exact ih.2.2 0 mh hImh hFmh ⟨by omega, by omega⟩ hM
      · have b12 : 0 ≤ x2 ∧ x2 < 4 := by omega
        refine zw_if b12 ?_
        have b13 : 0 ≤ x2 ∧ x2 < 4 := by omega
        refine zw_if b13 ?_
        refine zw_bd (zw_mono (zk_196_15_8 n hImh (zc_61_e (zc_13_3 hc0) b12) (zc_42_e zq_21 b13)) (fun v15 m14 hqm14 => ?_))
        obtain ⟨hIm14, hfm14, hvm14⟩ := hqm14
        have hFm14 := zfr_tr hFmh hfm14 rfl
        have w16 := zu_w32_id (z := x2 + 1) (by omega) (by omega)
        have hM : (4 - (zu_w32 (x2 + 1))) * 1 + 49 < (k : Int) := by omega
        exact ih.2.1 (zu_w32 (x2 + 1)) m14 hIm14 hFm14 ⟨by omega, by omega⟩ hM
    · intro x2 mh hImh hFmh hbx2 hM
      refine zw_eq (zr_22_80 n a0 a1 x2 mh) ?_
      refine zw_ite (fun h17 => ?_) (fun h17 => ?_)
      · have r18 : (-2147483648) ≤ (mh a1 8) ∧ (mh a1 8) ≤ 2147483647 := zi_rd hImh hc1 zb_6_8
        generalize hmm19 : zu_up mh a0 8 (mh a1 8) = m19
        have hIm19 := zi_up hmm19 hImh hc0 zb_13_8 (by omega) (by omega)
        have hFm19 := zfr_up hmm19 hFmh hc0 rfl
        have r20 : (-2147483648) ≤ (m19 a1 9) ∧ (m19 a1 9) ≤ 2147483647 := zi_rd hIm19 hc1 zb_6_9
        generalize hmm21 : zu_up m19 a0 9 (m19 a1 9) = m21
        have hIm21 := zi_up hmm21 hIm19 hc0 zb_13_9 (by omega) (by omega)
        have hFm21 := zfr_up hmm21 hFm19 hc0 rfl
        have r22 : 0 ≤ (m21 a1 10) ∧ (m21 a1 10) ≤ 3 := zi_rd hIm21 hc1 zb_6_10
        generalize hmm23 : zu_up m21 a0 10 (m21 a1 10) = m23
        have hIm23 := zi_up hmm23 hIm21 hc0 zb_13_10 (by omega) (by omega)
        have hFm23 := zfr_up hmm23 hFm21 hc0 rfl
        have r24 : (-2147483648) ≤ (m23 a1 11) ∧ (m23 a1 11) ≤ 2147483647 := zi_rd hIm23 hc1 zb_6_11
        generalize hmm25 : zu_up m23 a0 11 (m23 a1 11) = m25
        have hIm25 := zi_up hmm25 hIm23 hc0 zb_13_11 (by omega) (by omega)
        have hFm25 := zfr_up hmm25 hFm23 hc0 rfl
        exact zw_some ⟨hIm25, hFm25, trivial⟩
      · have b26 : 0 ≤ x2 ∧ x2 < 48 := by omega
        refine zw_if b26 ?_
        have r27 : 0 ≤ (mh 22 x2) ∧ (mh 22 x2) ≤ 1 := zi_rd hImh zq_22 (zb_43 _)
        refine zw_b (by omega) ?_
        have b28 : 0 ≤ x2 ∧ x2 < 48 := by omega
        refine zw_if b28 ?_
        generalize hmm29 : zu_up mh (a0 + 3) x2 (mh 22 x2) = m29
        have hIm29 := zi_up hmm29 hImh (zc_13_5 hc0) (zb_62 _) (by omega) (by omega)
        have hFm29 := zfr_up hmm29 hFmh (zc_13_5 hc0) rfl
        have b30 : 0 ≤ x2 ∧ x2 < 48 := by omega
        refine zw_if b30 ?_
        have r31 : 0 ≤ (m29 23 x2) ∧ (m29 23 x2) ≤ 999000 := zi_rd hIm29 zq_23 (zb_44 _)
        have b32 : 0 ≤ x2 ∧ x2 < 48 := by omega
        refine zw_if b32 ?_
        generalize hmm33 : zu_up m29 (a0 + 4) x2 (m29 23 x2) = m33
        have hIm33 := zi_up hmm33 hIm29 (zc_13_6 hc0) (zb_63 _) (by omega) (by omega)
        have hFm33 := zfr_up hmm33 hFm29 (zc_13_6 hc0) rfl
        have w34 := zu_w32_id (z := x2 + 1) (by omega) (by omega)
        have hM : (48 - (zu_w32 (x2 + 1))) * 1 + 0 < (k : Int) := by omega
        exact ih.2.2 (zu_w32 (x2 + 1)) m33 hIm33 hFm33 ⟨by omega, by omega⟩ hM
set_option maxHeartbeats 4000000 in
theorem zk_22_13_6 (n : Nat) {a0 a1 : Int} {m0 : zu_m} (hIm0 : zi_I m0) (hc0 : zcls a0 = 13) (hc1 : zcls a1 = 6)      : zw (zu_call (zt_T n) 22 [(27, a0), (16, a1)] m0) (fun v m => zi_I m ∧ zfr [(13, 3), (13, 5), (13, 9), (13, 10), (13, 11), (13, 12), (14, 1), (14, 2), (14, 3), (14, 4), (15, 1), (15, 2), (15, 3), (15, 4), (15, 5), (15, 6), (15, 7), (15, 8), (62, 0), (63, 0)] m0 m ∧ True) := by
  have hFm0 : zfr [(13, 3), (13, 5), (13, 9), (13, 10), (13, 11), (13, 12), (14, 1), (14, 2), (14, 3), (14, 4), (15, 1), (15, 2), (15, 3), (15, 4), (15, 5), (15, 6), (15, 7), (15, 8), (62, 0), (63, 0)] m0 m0 := zfr_rf _ _
  refine zw_eq (zr_22_0 n a0 a1 m0) ?_
  have r35 : 0 ≤ (m0 a1 2) ∧ (m0 a1 2) ≤ 16 := zi_rd hIm0 hc1 zb_6_2
  generalize hmm36 : zu_up m0 a0 2 (m0 a1 2) = m36
  have hIm36 := zi_up hmm36 hIm0 hc0 zb_13_2 (by omega) (by omega)
  have hFm36 := zfr_up hmm36 hFm0 hc0 rfl
  have hM : (16 - 0) * 1 + 54 < ((71 : Nat) : Int) := by omega
  exact (zl_22_13_6 n (m0 := m0) hc0 hc1 71).1 0 m36 hIm36 hFm36 ⟨by omega, by omega⟩ hM
set_option maxHeartbeats 4000000 in
theorem zl_22_16_13 (n : Nat) {a0 a1 : Int} {m0 : zu_m} (hc0 : zcls a0 = 16) (hc1 : zcls a1 = 13)  : ∀ k : Nat, (∀ (x2 : Int) (mh : zu_m), zi_I mh → zfr [(16, 3), (16, 5), (16, 9), (16, 10), (16, 11), (16, 12), (17, 1), (17, 2), (17, 3), (17, 4), (18, 1), (18, 2), (18, 3), (18, 4), (18, 5), (18, 6), (18, 7), (18, 8), (67, 0), (68, 0)] m0 mh → (0 ≤ x2 ∧ x2 ≤ 16) → (16 - x2) * 1 + 54 < (k : Int) → zw (zu_ex (zt_T n) 22 10 [(27, a0), (27, a1), (0, x2)] [] mh) (fun v m => zi_I m ∧ zfr [(16, 3), (16, 5), (16, 9), (16, 10), (16, 11), (16, 12), (17, 1), (17, 2), (17, 3), (17, 4), (18, 1), (18, 2), (18, 3), (18, 4), (18, 5), (18, 6), (18, 7), (18, 8), (67, 0), (68, 0)] m0 m ∧ True)) ∧ (∀ (x2 : Int) (mh : zu_m), zi_I mh → zfr [(16, 3), (16, 5), (16, 9), (16, 10), (16, 11), (16, 12), (17, 1), (17, 2), (17, 3), (17, 4), (18, 1), (18, 2), (18, 3), (18, 4), (18, 5), (18, 6), (18, 7), (18, 8), (67, 0), (68, 0)] m0 mh → (0 ≤ x2 ∧ x2 ≤ 4) → (4 - x2) * 1 + 49 < (k : Int) → zw (zu_ex (zt_T n) 22 49 [(27, a0), (27, a1), (0, x2)] [] mh) (fun v m => zi_I m ∧ zfr [(16, 3), (16, 5), (16, 9), (16, 10), (16, 11), (16, 12), (17, 1), (17, 2), (17, 3), (17, 4), (18, 1), (18, 2), (18, 3), (18, 4), (18, 5), (18, 6), (18, 7), (18, 8), (67, 0), (68, 0)] m0 m ∧ True)) ∧ (∀ (x2 : Int) (mh : zu_m), zi_I mh → zfr [(16, 3), (16, 5), (16, 9), (16, 10), (16, 11), (16, 12), (17, 1), (17, 2), (17, 3), (17, 4), (18, 1), (18, 2), (18, 3), (18, 4), (18, 5), (18, 6), (18, 7), (18, 8), (67, 0), (68, 0)] m0 mh → (0 ≤ x2 ∧ x2 ≤ 48) → (48 - x2) * 1 + 0 < (k : Int) → zw (zu_ex (zt_T n) 22 80 [(27, a0), (27, a1), (0, x2)] [] mh) (fun v m => zi_I m ∧ zfr [(16, 3), (16, 5), (16, 9), (16, 10), (16, 11), (16, 12), (17, 1), (17, 2), (17, 3), (17, 4), (18, 1), (18, 2), (18, 3), (18, 4), (18, 5), (18, 6), (18, 7), (18, 8), (67, 0), (68, 0)] m0 m ∧ True)) := by
  intro k
  induction k with
  | zero => exact ⟨fun x2 mh hImh hFmh hbx2 hM => by exfalso; omega, fun x2 mh hImh hFmh hbx2 hM => by exfalso; omega, fun x2 mh hImh hFmh hbx2 hM => by exfalso; omega⟩
  | succ k ih =>
    refine ⟨?_, ?_, ?_⟩
    · intro x2 mh hImh hFmh hbx2 hM
      refine zw_eq (zr_22b_10 n a0 a1 x2 mh) ?_
      have r1 : 0 ≤ (mh a0 2) ∧ (mh a0 2) ≤ 16 := zi_rd hImh hc0 zb_16_2
      refine zw_ite (fun h2 => ?_) (fun h2 => ?_)
      · have r3 : 0 ≤ (mh a1 4) ∧ (mh a1 4) ≤ 4 := zi_rd hImh hc1 zb_13_4
        generalize hmm4 : zu_up mh a0 4 (mh a1 4) = m4
        have hIm4 := zi_up hmm4 hImh hc0 zb_16_4 (by omega) (by omega)
        have hFm4 := zfr_up hmm4 hFmh hc0 rfl
        have hM : (4 - 0) * 1 + 49 < (k : Int) := by omega
        exact ih.2.1 0 m4 hIm4 hFm4 ⟨by omega, by omega⟩ hM
      · have b5 : 0 ≤ x2 ∧ x2 < 16 := by omega
        refine zw_if b5 ?_
        have b6 : 0 ≤ x2 ∧ x2 < 16 := by omega
        refine zw_if b6 ?_
        refine zw_bd (zw_mono (zk_197_17_14 n hImh (zc_65_e (zc_16_1 hc0) b5) (zc_60_e (zc_13_1 hc1) b6)) (fun v8 m7 hqm7 => ?_))
        obtain ⟨hIm7, hfm7, hvm7⟩ := hqm7
        have hFm7 := zfr_tr hFmh hfm7 rfl
        have w9 := zu_w32_id (z := x2 + 1) (by omega) (by omega)
        have hM : (16 - (zu_w32 (x2 + 1))) * 1 + 54 < (k : Int) := by omega
        exact ih.1 (zu_w32 (x2 + 1)) m7 hIm7 hFm7 ⟨by omega, by omega⟩ hM
    · intro x2 mh hImh hFmh hbx2 hM
      refine zw_eq (zr_22b_49 n a0 a1 x2 mh) ?_
      have r10 : 0 ≤ (mh a0 4) ∧ (mh a0 4) ≤ 4 := zi_rd hImh hc0 zb_16_4
      refine zw_ite (fun h11 => ?_) (fun h11 => ?_)
      · have hM : (48 - 0) * 1 + 0 < (k : Int) := by omega
        exact ih.2.2 0 mh hImh hFmh ⟨by omega, by omega⟩ hM
      · have b12 : 0 ≤ x2 ∧ x2 < 4 := by omega
        refine zw_if b12 ?_
        have b13 : 0 ≤ x2 ∧ x2 < 4 := by omega
        refine zw_if b13 ?_
        refine zw_bd (zw_mono (zk_196_18_15 n hImh (zc_66_e (zc_16_3 hc0) b12) (zc_61_e (zc_13_3 hc1) b13)) (fun v15 m14 hqm14 => ?_))
        obtain ⟨hIm14, hfm14, hvm14⟩ := hqm14
        have hFm14 := zfr_tr hFmh hfm14 rfl
        have w16 := zu_w32_id (z := x2 + 1) (by omega) (by omega)
        have hM : (4 - (zu_w32 (x2 + 1))) * 1 + 49 < (k : Int) := by omega
        exact ih.2.1 (zu_w32 (x2 + 1)) m14 hIm14 hFm14 ⟨by omega, by omega⟩ hM
    · intro x2 mh hImh hFmh hbx2 hM
      refine zw_eq (zr_22b_80 n a0 a1 x2 mh) ?_
      refine zw_ite (fun h17 => ?_) (fun h17 => ?_)
      · have r18 : (-2147483648) ≤ (mh a1 8) ∧ (mh a1 8) ≤ 2147483647 := zi_rd hImh hc1 zb_13_8
        generalize hmm19 : zu_up mh a0 8 (mh a1 8) = m19
        have hIm19 := zi_up hmm19 hImh hc0 zb_16_8 (by omega) (by omega)
        have hFm19 := zfr_up hmm19 hFmh hc0 rfl
        have r20 : (-2147483648) ≤ (m19 a1 9) ∧ (m19 a1 9) ≤ 2147483647 := zi_rd hIm19 hc1 zb_13_9
        generalize hmm21 : zu_up m19 a0 9 (m19 a1 9) = m21
        have hIm21 := zi_up hmm21 hIm19 hc0 zb_16_9 (by omega) (by omega)
        have hFm21 := zfr_up hmm21 hFm19 hc0 rfl
        have r22 : 0 ≤ (m21 a1 10) ∧ (m21 a1 10) ≤ 3 := zi_rd hIm21 hc1 zb_13_10
        generalize hmm23 : zu_up m21 a0 10 (m21 a1 10) = m23
        have hIm23 := zi_up hmm23 hIm21 hc0 zb_16_10 (by omega) (by omega)
        have hFm23 := zfr_up hmm23 hFm21 hc0 rfl
        have r24 : (-2147483648) ≤ (m23 a1 11) ∧ (m23 a1 11) ≤ 2147483647 := zi_rd hIm23 hc1 zb_13_11
        generalize hmm25 : zu_up m23 a0 11 (m23 a1 11) = m25
        have hIm25 := zi_up hmm25 hIm23 hc0 zb_16_11 (by omega) (by omega)
        have hFm25 := zfr_up hmm25 hFm23 hc0 rfl
        exact zw_some ⟨hIm25, hFm25, trivial⟩
      · have b26 : 0 ≤ x2 ∧ x2 < 48 := by omega
        refine zw_if b26 ?_
        have r27 : 0 ≤ (mh (a1 + 3) x2) ∧ (mh (a1 + 3) x2) ≤ 1 := zi_rd hImh (zc_13_5 hc1) (zb_62 _)
        refine zw_b (by omega) ?_
        have b28 : 0 ≤ x2 ∧ x2 < 48 := by omega
        refine zw_if b28 ?_
        generalize hmm29 : zu_up mh (a0 + 3) x2 (mh (a1 + 3) x2) = m29
        have hIm29 := zi_up hmm29 hImh (zc_16_5 hc0) (zb_67 _) (by omega) (by omega)
        have hFm29 := zfr_up hmm29 hFmh (zc_16_5 hc0) rfl
        have b30 : 0 ≤ x2 ∧ x2 < 48 := by omega
        refine zw_if b30 ?_
        have r31 : 0 ≤ (m29 (a1 + 4) x2) ∧ (m29 (a1 + 4) x2) ≤ 999000 := zi_rd hIm29 (zc_13_6 hc1) (zb_63 _)
        have b32 : 0 ≤ x2 ∧ x2 < 48 := by omega
        refine zw_if b32 ?_
        generalize hmm33 : zu_up m29 (a0 + 4) x2 (m29 (a1 + 4) x2) = m33
        have hIm33 := zi_up hmm33 hIm29 (zc_16_6 hc0) (zb_68 _) (by omega) (by omega)
        have hFm33 := zfr_up hmm33 hFm29 (zc_16_6 hc0) rfl
        have w34 := zu_w32_id (z := x2 + 1) (by omega) (by omega)
        have hM : (48 - (zu_w32 (x2 + 1))) * 1 + 0 < (k : Int) := by omega
        exact ih.2.2 (zu_w32 (x2 + 1)) m33 hIm33 hFm33 ⟨by omega, by omega⟩ hM
set_option maxHeartbeats 4000000 in
theorem zk_22_16_13 (n : Nat) {a0 a1 : Int} {m0 : zu_m} (hIm0 : zi_I m0) (hc0 : zcls a0 = 16) (hc1 : zcls a1 = 13)      : zw (zu_call (zt_T n) 22 [(27, a0), (27, a1)] m0) (fun v m => zi_I m ∧ zfr [(16, 3), (16, 5), (16, 9), (16, 10), (16, 11), (16, 12), (17, 1), (17, 2), (17, 3), (17, 4), (18, 1), (18, 2), (18, 3), (18, 4), (18, 5), (18, 6), (18, 7), (18, 8), (67, 0), (68, 0)] m0 m ∧ True) := by
  have hFm0 : zfr [(16, 3), (16, 5), (16, 9), (16, 10), (16, 11), (16, 12), (17, 1), (17, 2), (17, 3), (17, 4), (18, 1), (18, 2), (18, 3), (18, 4), (18, 5), (18, 6), (18, 7), (18, 8), (67, 0), (68, 0)] m0 m0 := zfr_rf _ _
  refine zw_eq (zr_22b_0 n a0 a1 m0) ?_
  have r35 : 0 ≤ (m0 a1 2) ∧ (m0 a1 2) ≤ 16 := zi_rd hIm0 hc1 zb_13_2
  generalize hmm36 : zu_up m0 a0 2 (m0 a1 2) = m36
  have hIm36 := zi_up hmm36 hIm0 hc0 zb_16_2 (by omega) (by omega)
  have hFm36 := zfr_up hmm36 hFm0 hc0 rfl
  have hM : (16 - 0) * 1 + 54 < ((71 : Nat) : Int) := by omega
  exact (zl_22_16_13 n (m0 := m0) hc0 hc1 71).1 0 m36 hIm36 hFm36 ⟨by omega, by omega⟩ hM
set_option maxHeartbeats 4000000 in
theorem zl_22_16_19 (n : Nat) {a0 a1 : Int} {m0 : zu_m} (hc0 : zcls a0 = 16) (hc1 : zcls a1 = 19)  : ∀ k : Nat, (∀ (x2 : Int) (mh : zu_m), zi_I mh → zfr [(16, 3), (16, 5), (16, 9), (16, 10), (16, 11), (16, 12), (17, 1), (17, 2), (17, 3), (17, 4), (18, 1), (18, 2), (18, 3), (18, 4), (18, 5), (18, 6), (18, 7), (18, 8), (67, 0), (68, 0)] m0 mh → (0 ≤ x2 ∧ x2 ≤ 16) → (16 - x2) * 1 + 54 < (k : Int) → zw (zu_ex (zt_T n) 22 10 [(27, a0), (27, a1), (0, x2)] [] mh) (fun v m => zi_I m ∧ zfr [(16, 3), (16, 5), (16, 9), (16, 10), (16, 11), (16, 12), (17, 1), (17, 2), (17, 3), (17, 4), (18, 1), (18, 2), (18, 3), (18, 4), (18, 5), (18, 6), (18, 7), (18, 8), (67, 0), (68, 0)] m0 m ∧ True)) ∧ (∀ (x2 : Int) (mh : zu_m), zi_I mh → zfr [(16, 3), (16, 5), (16, 9), (16, 10), (16, 11), (16, 12), (17, 1), (17, 2), (17, 3), (17, 4), (18, 1), (18, 2), (18, 3), (18, 4), (18, 5), (18, 6), (18, 7), (18, 8), (67, 0), (68, 0)] m0 mh → (0 ≤ x2 ∧ x2 ≤ 4) → (4 - x2) * 1 + 49 < (k : Int) → zw (zu_ex (zt_T n) 22 49 [(27, a0), (27, a1), (0, x2)] [] mh) (fun v m => zi_I m ∧ zfr [(16, 3), (16, 5), (16, 9), (16, 10), (16, 11), (16, 12), (17, 1), (17, 2), (17, 3), (17, 4), (18, 1), (18, 2), (18, 3), (18, 4), (18, 5), (18, 6), (18, 7), (18, 8), (67, 0), (68, 0)] m0 m ∧ True)) ∧ (∀ (x2 : Int) (mh : zu_m), zi_I mh → zfr [(16, 3), (16, 5), (16, 9), (16, 10), (16, 11), (16, 12), (17, 1), (17, 2), (17, 3), (17, 4), (18, 1), (18, 2), (18, 3), (18, 4), (18, 5), (18, 6), (18, 7), (18, 8), (67, 0), (68, 0)] m0 mh → (0 ≤ x2 ∧ x2 ≤ 48) → (48 - x2) * 1 + 0 < (k : Int) → zw (zu_ex (zt_T n) 22 80 [(27, a0), (27, a1), (0, x2)] [] mh) (fun v m => zi_I m ∧ zfr [(16, 3), (16, 5), (16, 9), (16, 10), (16, 11), (16, 12), (17, 1), (17, 2), (17, 3), (17, 4), (18, 1), (18, 2), (18, 3), (18, 4), (18, 5), (18, 6), (18, 7), (18, 8), (67, 0), (68, 0)] m0 m ∧ True)) := by
  intro k
  induction k with
  | zero => exact ⟨fun x2 mh hImh hFmh hbx2 hM => by exfalso; omega, fun x2 mh hImh hFmh hbx2 hM => by exfalso; omega, fun x2 mh hImh hFmh hbx2 hM => by exfalso; omega⟩
  | succ k ih =>
    refine ⟨?_, ?_, ?_⟩
    · intro x2 mh hImh hFmh hbx2 hM
      refine zw_eq (zr_22b_10 n a0 a1 x2 mh) ?_
      have r1 : 0 ≤ (mh a0 2) ∧ (mh a0 2) ≤ 16 := zi_rd hImh hc0 zb_16_2
      refine zw_ite (fun h2 => ?_) (fun h2 => ?_)
      · have r3 : 0 ≤ (mh a1 4) ∧ (mh a1 4) ≤ 4 := zi_rd hImh hc1 zb_19_4
        generalize hmm4 : zu_up mh a0 4 (mh a1 4) = m4
        have hIm4 := zi_up hmm4 hImh hc0 zb_16_4 (by omega) (by omega)
        have hFm4 := zfr_up hmm4 hFmh hc0 rfl
        have hM : (4 - 0) * 1 + 49 < (k : Int) := by omega
        exact ih.2.1 0 m4 hIm4 hFm4 ⟨by omega, by omega⟩ hM
      · have b5 : 0 ≤ x2 ∧ x2 < 16 := by omega
        refine zw_if b5 ?_
        have b6 : 0 ≤ x2 ∧ x2 < 16 := by omega
        refine zw_if b6 ?_
        refine zw_bd (zw_mono (zk_197_17_20 n hImh (zc_65_e (zc_16_1 hc0) b5) (zc_70_e (zc_19_1 hc1) b6)) (fun v8 m7 hqm7 => ?_))
        obtain ⟨hIm7, hfm7, hvm7⟩ := hqm7
        have hFm7 := zfr_tr hFmh hfm7 rfl
        have w9 := zu_w32_id (z := x2 + 1) (by omega) (by omega)
        have hM : (16 - (zu_w32 (x2 + 1))) * 1 + 54 < (k : Int) := by omega
        exact ih.1 (zu_w32 (x2 + 1)) m7 hIm7 hFm7 ⟨by omega, by omega⟩ hM
    · intro x2 mh hImh hFmh hbx2 hM
      refine zw_eq (zr_22b_49 n a0 a1 x2 mh) ?_
      have r10 : 0 ≤ (mh a0 4) ∧ (mh a0 4) ≤ 4 := zi_rd hImh hc0 zb_16_4
      refine zw_ite (fun h11 => ?_) (fun h11 => ?_)
      · have hM : (48 - 0) * 1 + 0 < (k : Int) := by omega
        exact ih.2.2 0 mh hImh hFmh ⟨by omega, by omega⟩ hM
      · have b12 : 0 ≤ x2 ∧ x2 < 4 := by omega
        refine zw_if b12 ?_
        have b13 : 0 ≤ x2 ∧ x2 < 4 := by omega
        refine zw_if b13 ?_
        refine zw_bd (zw_mono (zk_196_18_21 n hImh (zc_66_e (zc_16_3 hc0) b12) (zc_71_e (zc_19_3 hc1) b13)) (fun v15 m14 hqm14 => ?_))
        obtain ⟨hIm14, hfm14, hvm14⟩ := hqm14
        have hFm14 := zfr_tr hFmh hfm14 rfl
        have w16 := zu_w32_id (z := x2 + 1) (by omega) (by omega)
        have hM : (4 - (zu_w32 (x2 + 1))) * 1 + 49 < (k : Int) := by omega
        exact ih.2.1 (zu_w32 (x2 + 1)) m14 hIm14 hFm14 ⟨by omega, by omega⟩ hM
    · intro x2 mh hImh hFmh hbx2 hM
      refine zw_eq (zr_22b_80 n a0 a1 x2 mh) ?_
      refine zw_ite (fun h17 => ?_) (fun h17 => ?_)
      · have r18 : (-2147483648) ≤ (mh a1 8) ∧ (mh a1 8) ≤ 2147483647 := zi_rd hImh hc1 zb_19_8
        generalize hmm19 : zu_up mh a0 8 (mh a1 8) = m19
        have hIm19 := zi_up hmm19 hImh hc0 zb_16_8 (by omega) (by omega)
        have hFm19 := zfr_up hmm19 hFmh hc0 rfl
        have r20 : (-2147483648) ≤ (m19 a1 9) ∧ (m19 a1 9) ≤ 2147483647 := zi_rd hIm19 hc1 zb_19_9
        generalize hmm21 : zu_up m19 a0 9 (m19 a1 9) = m21
        have hIm21 := zi_up hmm21 hIm19 hc0 zb_16_9 (by omega) (by omega)
        have hFm21 := zfr_up hmm21 hFm19 hc0 rfl
        have r22 : 0 ≤ (m21 a1 10) ∧ (m21 a1 10) ≤ 3 := zi_rd hIm21 hc1 zb_19_10
        generalize hmm23 : zu_up m21 a0 10 (m21 a1 10) = m23
        have hIm23 := zi_up hmm23 hIm21 hc0 zb_16_10 (by omega) (by omega)
        have hFm23 := zfr_up hmm23 hFm21 hc0 rfl
        have r24 : (-2147483648) ≤ (m23 a1 11) ∧ (m23 a1 11) ≤ 2147483647 := zi_rd hIm23 hc1 zb_19_11
        generalize hmm25 : zu_up m23 a0 11 (m23 a1 11) = m25
        have hIm25 := zi_up hmm25 hIm23 hc0 zb_16_11 (by omega) (by omega)
        have hFm25 := zfr_up hmm25 hFm23 hc0 rfl
        exact zw_some ⟨hIm25, hFm25, trivial⟩
      · have b26 : 0 ≤ x2 ∧ x2 < 48 := by omega
        refine zw_if b26 ?_
        have r27 : 0 ≤ (mh (a1 + 3) x2) ∧ (mh (a1 + 3) x2) ≤ 1 := zi_rd hImh (zc_19_5 hc1) (zb_72 _)
        refine zw_b (by omega) ?_
        have b28 : 0 ≤ x2 ∧ x2 < 48 := by omega
        refine zw_if b28 ?_
        generalize hmm29 : zu_up mh (a0 + 3) x2 (mh (a1 + 3) x2) = m29
        have hIm29 := zi_up hmm29 hImh (zc_16_5 hc0) (zb_67 _) (by omega) (by omega)
        have hFm29 := zfr_up hmm29 hFmh (zc_16_5 hc0) rfl
        have b30 : 0 ≤ x2 ∧ x2 < 48 := by omega
        refine zw_if b30 ?_
        have r31 : 0 ≤ (m29 (a1 + 4) x2) ∧ (m29 (a1 + 4) x2) ≤ 999000 := zi_rd hIm29 (zc_19_6 hc1) (zb_73 _)
        have b32 : 0 ≤ x2 ∧ x2 < 48 := by omega
        refine zw_if b32 ?_
        generalize hmm33 : zu_up m29 (a0 + 4) x2 (m29 (a1 + 4) x2) = m33
        have hIm33 := zi_up hmm33 hIm29 (zc_16_6 hc0) (zb_68 _) (by omega) (by omega)
        have hFm33 := zfr_up hmm33 hFm29 (zc_16_6 hc0) rfl
        have w34 := zu_w32_id (z := x2 + 1) (by omega) (by omega)
        have hM : (48 - (zu_w32 (x2 + 1))) * 1 + 0 < (k : Int) := by omega
        exact ih.2.2 (zu_w32 (x2 + 1)) m33 hIm33 hFm33 ⟨by omega, by omega⟩ hM
set_option maxHeartbeats 4000000 in
theorem zk_22_16_19 (n : Nat) {a0 a1 : Int} {m0 : zu_m} (hIm0 : zi_I m0) (hc0 : zcls a0 = 16) (hc1 : zcls a1 = 19)      : zw (zu_call (zt_T n) 22 [(27, a0), (27, a1)] m0) (fun v m => zi_I m ∧ zfr [(16, 3), (16, 5), (16, 9), (16, 10), (16, 11), (16, 12), (17, 1), (17, 2), (17, 3), (17, 4), (18, 1), (18, 2), (18, 3), (18, 4), (18, 5), (18, 6), (18, 7), (18, 8), (67, 0), (68, 0)] m0 m ∧ True) := by
  have hFm0 : zfr [(16, 3), (16, 5), (16, 9), (16, 10), (16, 11), (16, 12), (17, 1), (17, 2), (17, 3), (17, 4), (18, 1), (18, 2), (18, 3), (18, 4), (18, 5), (18, 6), (18, 7), (18, 8), (67, 0), (68, 0)] m0 m0 := zfr_rf _ _
  refine zw_eq (zr_22b_0 n a0 a1 m0) ?_
  have r35 : 0 ≤ (m0 a1 2) ∧ (m0 a1 2) ≤ 16 := zi_rd hIm0 hc1 zb_19_2
  generalize hmm36 : zu_up m0 a0 2 (m0 a1 2) = m36
  have hIm36 := zi_up hmm36 hIm0 hc0 zb_16_2 (by omega) (by omega)
  have hFm36 := zfr_up hmm36 hFm0 hc0 rfl
  have hM : (16 - 0) * 1 + 54 < ((71 : Nat) : Int) := by omega
  exact (zl_22_16_19 n (m0 := m0) hc0 hc1 71).1 0 m36 hIm36 hFm36 ⟨by omega, by omega⟩ hM
set_option maxHeartbeats 4000000 in
theorem zl_22_19_16 (n : Nat) {a0 a1 : Int} {m0 : zu_m} (hc0 : zcls a0 = 19) (hc1 : zcls a1 = 16)  : ∀ k : Nat, (∀ (x2 : Int) (mh : zu_m), zi_I mh → zfr [(19, 3), (19, 5), (19, 9), (19, 10), (19, 11), (19, 12), (20, 1), (20, 2), (20, 3), (20, 4), (21, 1), (21, 2), (21, 3), (21, 4), (21, 5), (21, 6), (21, 7), (21, 8), (72, 0), (73, 0)] m0 mh → (0 ≤ x2 ∧ x2 ≤ 16) → (16 - x2) * 1 + 54 < (k : Int) → zw (zu_ex (zt_T n) 22 10 [(27, a0), (27, a1), (0, x2)] [] mh) (fun v m => zi_I m ∧ zfr [(19, 3), (19, 5), (19, 9), (19, 10), (19, 11), (19, 12), (20, 1), (20, 2), (20, 3), (20, 4), (21, 1), (21, 2), (21, 3), (21, 4), (21, 5), (21, 6), (21, 7), (21, 8), (72, 0), (73, 0)] m0 m ∧ True)) ∧ (∀ (x2 : Int) (mh : zu_m), zi_I mh → zfr [(19, 3), (19, 5), (19, 9), (19, 10), (19, 11), (19, 12), (20, 1), (20, 2), (20, 3), (20, 4), (21, 1), (21, 2), (21, 3), (21, 4), (21, 5), (21, 6), (21, 7), (21, 8), (72, 0), (73, 0)] m0 mh → (0 ≤ x2 ∧ x2 ≤ 4) → (4 - x2) * 1 + 49 < (k : Int) → zw (zu_ex (zt_T n) 22 49 [(27, a0), (27, a1), (0, x2)] [] mh) (fun v m => zi_I m ∧ zfr [(19, 3), (19, 5), (19, 9), (19, 10), (19, 11), (19, 12), (20, 1), (20, 2), (20, 3), (20, 4), (21, 1), (21, 2), (21, 3), (21, 4), (21, 5), (21, 6), (21, 7), (21, 8), (72, 0), (73, 0)] m0 m ∧ True)) ∧ (∀ (x2 : Int) (mh : zu_m), zi_I mh → zfr [(19, 3), (19, 5), (19, 9), (19, 10), (19, 11), (19, 12), (20, 1), (20, 2), (20, 3), (20, 4), (21, 1), (21, 2), (21, 3), (21, 4), (21, 5), (21, 6), (21, 7), (21, 8), (72, 0), (73, 0)] m0 mh → (0 ≤ x2 ∧ x2 ≤ 48) → (48 - x2) * 1 + 0 < (k : Int) → zw (zu_ex (zt_T n) 22 80 [(27, a0), (27, a1), (0, x2)] [] mh) (fun v m => zi_I m ∧ zfr [(19, 3), (19, 5), (19, 9), (19, 10), (19, 11), (19, 12), (20, 1), (20, 2), (20, 3), (20, 4), (21, 1), (21, 2), (21, 3), (21, 4), (21, 5), (21, 6), (21, 7), (21, 8), (72, 0), (73, 0)] m0 m ∧ True)) := by
  intro k
  induction k with
  | zero => exact ⟨fun x2 mh hImh hFmh hbx2 hM => by exfalso; omega, fun x2 mh hImh hFmh hbx2 hM => by exfalso; omega, fun x2 mh hImh hFmh hbx2 hM => by exfalso; omega⟩
  | succ k ih =>
    refine ⟨?_, ?_, ?_⟩
    · intro x2 mh hImh hFmh hbx2 hM
      refine zw_eq (zr_22b_10 n a0 a1 x2 mh) ?_
      have r1 : 0 ≤ (mh a0 2) ∧ (mh a0 2) ≤ 16 := zi_rd hImh hc0 zb_19_2
      refine zw_ite (fun h2 => ?_) (fun h2 => ?_)
      · have r3 : 0 ≤ (mh a1 4) ∧ (mh a1 4) ≤ 4 := zi_rd hImh hc1 zb_16_4
        generalize hmm4 : zu_up mh a0 4 (mh a1 4) = m4
        have hIm4 := zi_up hmm4 hImh hc0 zb_19_4 (by omega) (by omega)
        have hFm4 := zfr_up hmm4 hFmh hc0 rfl
        have hM : (4 - 0) * 1 + 49 < (k : Int) := by omega
        exact ih.2.1 0 m4 hIm4 hFm4 ⟨by omega, by omega⟩ hM
      · have b5 : 0 ≤ x2 ∧ x2 < 16 := by omega
        refine zw_if b5 ?_
        have b6 : 0 ≤ x2 ∧ x2 < 16 := by omega
        refine zw_if b6 ?_
        refine zw_bd (zw_mono (zk_197_20_17 n hImh (zc_70_e (zc_19_1 hc0) b5) (zc_65_e (zc_16_1 hc1) b6)) (fun v8 m7 hqm7 => ?_))
        obtain ⟨hIm7, hfm7, hvm7⟩ := hqm7
        have hFm7 := zfr_tr hFmh hfm7 rfl
        have w9 := zu_w32_id (z := x2 + 1) (by omega) (by omega)
        have hM : (16 - (zu_w32 (x2 + 1))) * 1 + 54 < (k : Int) := by omega
        exact ih.1 (zu_w32 (x2 + 1)) m7 hIm7 hFm7 ⟨by omega, by omega⟩ hM
    · intro x2 mh hImh hFmh hbx2 hM
      refine zw_eq (zr_22b_49 n a0 a1 x2 mh) ?_
      have r10 : 0 ≤ (mh a0 4) ∧ (mh a0 4) ≤ 4 := zi_rd hImh hc0 zb_19_4
      refine zw_ite (fun h11 => ?_) (fun h11 => ?_)
      · have hM : (48 - 0) * 1 + 0 < (k : Int) := by omega
        exact ih.2.2 0 mh hImh hFmh ⟨by omega, by omega⟩ hM
      · have b12 : 0 ≤ x2 ∧ x2 < 4 := by omega
        refine zw_if b12 ?_
        have b13 : 0 ≤ x2 ∧ x2 < 4 := by omega
        refine zw_if b13 ?_
        refine zw_bd (zw_mono (zk_196_21_18 n hImh (zc_71_e (zc_19_3 hc0) b12) (zc_66_e (zc_16_3 hc1) b13)) (fun v15 m14 hqm14 => ?_))
        obtain ⟨hIm14, hfm14, hvm14⟩ := hqm14
        have hFm14 := zfr_tr hFmh hfm14 rfl
        have w16 := zu_w32_id (z := x2 + 1) (by omega) (by omega)
        have hM : (4 - (zu_w32 (x2 + 1))) * 1 + 49 < (k : Int) := by omega
        exact ih.2.1 (zu_w32 (x2 + 1)) m14 hIm14 hFm14 ⟨by omega, by omega⟩ hM
    · intro x2 mh hImh hFmh hbx2 hM
      refine zw_eq (zr_22b_80 n a0 a1 x2 mh) ?_
      refine zw_ite (fun h17 => ?_) (fun h17 => ?_)
      · have r18 : (-2147483648) ≤ (mh a1 8) ∧ (mh a1 8) ≤ 2147483647 := zi_rd hImh hc1 zb_16_8
        generalize hmm19 : zu_up mh a0 8 (mh a1 8) = m19
        have hIm19 := zi_up hmm19 hImh hc0 zb_19_8 (by omega) (by omega)
        have hFm19 := zfr_up hmm19 hFmh hc0 rfl
        have r20 : (-2147483648) ≤ (m19 a1 9) ∧ (m19 a1 9) ≤ 2147483647 := zi_rd hIm19 hc1 zb_16_9
        generalize hmm21 : zu_up m19 a0 9 (m19 a1 9) = m21
        have hIm21 := zi_up hmm21 hIm19 hc0 zb_19_9 (by omega) (by omega)
        have hFm21 := zfr_up hmm21 hFm19 hc0 rfl
        have r22 : 0 ≤ (m21 a1 10) ∧ (m21 a1 10) ≤ 3 := zi_rd hIm21 hc1 zb_16_10
        generalize hmm23 : zu_up m21 a0 10 (m21 a1 10) = m23
        have hIm23 := zi_up hmm23 hIm21 hc0 zb_19_10 (by omega) (by omega)
        have hFm23 := zfr_up hmm23 hFm21 hc0 rfl
        have r24 : (-2147483648) ≤ (m23 a1 11) ∧ (m23 a1 11) ≤ 2147483647 := zi_rd hIm23 hc1 zb_16_11
        generalize hmm25 : zu_up m23 a0 11 (m23 a1 11) = m25
        have hIm25 := zi_up hmm25 hIm23 hc0 zb_19_11 (by omega) (by omega)
        have hFm25 := zfr_up hmm25 hFm23 hc0 rfl
        exact zw_some ⟨hIm25, hFm25, trivial⟩
      · have b26 : 0 ≤ x2 ∧ x2 < 48 := by omega
        refine zw_if b26 ?_
        have r27 : 0 ≤ (mh (a1 + 3) x2) ∧ (mh (a1 + 3) x2) ≤ 1 := zi_rd hImh (zc_16_5 hc1) (zb_67 _)
        refine zw_b (by omega) ?_
        have b28 : 0 ≤ x2 ∧ x2 < 48 := by omega
        refine zw_if b28 ?_
        generalize hmm29 : zu_up mh (a0 + 3) x2 (mh (a1 + 3) x2) = m29
        have hIm29 := zi_up hmm29 hImh (zc_19_5 hc0) (zb_72 _) (by omega) (by omega)
        have hFm29 := zfr_up hmm29 hFmh (zc_19_5 hc0) rfl
        have b30 : 0 ≤ x2 ∧ x2 < 48 := by omega
        refine zw_if b30 ?_
        have r31 : 0 ≤ (m29 (a1 + 4) x2) ∧ (m29 (a1 + 4) x2) ≤ 999000 := zi_rd hIm29 (zc_16_6 hc1) (zb_68 _)
        have b32 : 0 ≤ x2 ∧ x2 < 48 := by omega
        refine zw_if b32 ?_
        generalize hmm33 : zu_up m29 (a0 + 4) x2 (m29 (a1 + 4) x2) = m33
        have hIm33 := zi_up hmm33 hIm29 (zc_19_6 hc0) (zb_73 _) (by omega) (by omega)
        have hFm33 := zfr_up hmm33 hFm29 (zc_19_6 hc0) rfl
        have w34 := zu_w32_id (z := x2 + 1) (by omega) (by omega)
        have hM : (48 - (zu_w32 (x2 + 1))) * 1 + 0 < (k : Int) := by omega
        exact ih.2.2 (zu_w32 (x2 + 1)) m33 hIm33 hFm33 ⟨by omega, by omega⟩ hM
set_option maxHeartbeats 4000000 in
theorem zk_22_19_16 (n : Nat) {a0 a1 : Int} {m0 : zu_m} (hIm0 : zi_I m0) (hc0 : zcls a0 = 19) (hc1 : zcls a1 = 16)      : zw (zu_call (zt_T n) 22 [(27, a0), (27, a1)] m0) (fun v m => zi_I m ∧ zfr [(19, 3), (19, 5), (19, 9), (19, 10), (19, 11), (19, 12), (20, 1), (20, 2), (20, 3), (20, 4), (21, 1), (21, 2), (21, 3), (21, 4), (21, 5), (21, 6), (21, 7), (21, 8), (72, 0), (73, 0)] m0 m ∧ True) := by
  have hFm0 : zfr [(19, 3), (19, 5), (19, 9), (19, 10), (19, 11), (19, 12), (20, 1), (20, 2), (20, 3), (20, 4), (21, 1), (21, 2), (21, 3), (21, 4), (21, 5), (21, 6), (21, 7), (21, 8), (72, 0), (73, 0)] m0 m0 := zfr_rf _ _
  refine zw_eq (zr_22b_0 n a0 a1 m0) ?_
  have r35 : 0 ≤ (m0 a1 2) ∧ (m0 a1 2) ≤ 16 := zi_rd hIm0 hc1 zb_16_2
  generalize hmm36 : zu_up m0 a0 2 (m0 a1 2) = m36
  have hIm36 := zi_up hmm36 hIm0 hc0 zb_19_2 (by omega) (by omega)
  have hFm36 := zfr_up hmm36 hFm0 hc0 rfl
  have hM : (16 - 0) * 1 + 54 < ((71 : Nat) : Int) := by omega
  exact (zl_22_19_16 n (m0 := m0) hc0 hc1 71).1 0 m36 hIm36 hFm36 ⟨by omega, by omega⟩ hM
set_option maxHeartbeats 4000000 in
theorem zl_22_25_13 (n : Nat) {a0 a1 : Int} {m0 : zu_m} (hc0 : zcls a0 = 25) (hc1 : zcls a1 = 13)  : ∀ k : Nat, (∀ (x2 : Int) (mh : zu_m), zi_I mh → zfr [(25, 3), (25, 5), (25, 9), (25, 10), (25, 11), (25, 12), (26, 1), (26, 2), (26, 3), (26, 4), (27, 1), (27, 2), (27, 3), (27, 4), (27, 5), (27, 6), (27, 7), (27, 8), (97, 0), (98, 0)] m0 mh → (0 ≤ x2 ∧ x2 ≤ 16) → (16 - x2) * 1 + 54 < (k : Int) → zw (zu_ex (zt_T n) 22 10 [(27, a0), (27, a1), (0, x2)] [] mh) (fun v m => zi_I m ∧ zfr [(25, 3), (25, 5), (25, 9), (25, 10), (25, 11), (25, 12), (26, 1), (26, 2), (26, 3), (26, 4), (27, 1), (27, 2), (27, 3), (27, 4), (27, 5), (27, 6), (27, 7), (27, 8), (97, 0), (98, 0)] m0 m ∧ True)) ∧ (∀ (x2 : Int) (mh : zu_m), zi_I mh → zfr [(25, 3), (25, 5), (25, 9), (25, 10), (25, 11), (25, 12), (26, 1), (26, 2), (26, 3), (26, 4), (27, 1), (27, 2), (27, 3), (27, 4), (27, 5), (27, 6), (27, 7), (27, 8), (97, 0), (98, 0)] m0 mh → (0 ≤ x2 ∧ x2 ≤ 4) → (4 - x2) * 1 + 49 < (k : Int) → zw (zu_ex (zt_T n) 22 49 [(27, a0), (27, a1), (0, x2)] [] mh) (fun v m => zi_I m ∧ zfr [(25, 3), (25, 5), (25, 9), (25, 10), (25, 11), (25, 12), (26, 1), (26, 2), (26, 3), (26, 4), (27, 1), (27, 2), (27, 3), (27, 4), (27, 5), (27, 6), (27, 7), (27, 8), (97, 0), (98, 0)] m0 m ∧ True)) ∧ (∀ (x2 : Int) (mh : zu_m), zi_I mh → zfr [(25, 3), (25, 5), (25, 9), (25, 10), (25, 11), (25, 12), (26, 1), (26, 2), (26, 3), (26, 4), (27, 1), (27, 2), (27, 3), (27, 4), (27, 5), (27, 6), (27, 7), (27, 8), (97, 0), (98, 0)] m0 mh → (0 ≤ x2 ∧ x2 ≤ 48) → (48 - x2) * 1 + 0 < (k : Int) → zw (zu_ex (zt_T n) 22 80 [(27, a0), (27, a1), (0, x2)] [] mh) (fun v m => zi_I m ∧ zfr [(25, 3), (25, 5), (25, 9), (25, 10), (25, 11), (25, 12), (26, 1), (26, 2), (26, 3), (26, 4), (27, 1), (27, 2), (27, 3), (27, 4), (27, 5), (27, 6), (27, 7), (27, 8), (97, 0), (98, 0)] m0 m ∧ True)) := by
  intro k
  induction k with
  | zero => exact ⟨fun x2 mh hImh hFmh hbx2 hM => by exfalso; omega, fun x2 mh hImh hFmh hbx2 hM => by exfalso; omega, fun x2 mh hImh hFmh hbx2 hM => by exfalso; omega⟩
  | succ k ih =>
    refine ⟨?_, ?_, ?_⟩
    · intro x2 mh hImh hFmh hbx2 hM
      refine zw_eq (zr_22b_10 n a0 a1 x2 mh) ?_
      have r1 : 0 ≤ (mh a0 2) ∧ (mh a0 2) ≤ 16 := zi_rd hImh hc0 zb_25_2
      refine zw_ite (fun h2 => ?_) (fun h2 => ?_)
      · have r3 : 0 ≤ (mh a1 4) ∧ (mh a1 4) ≤ 4 := zi_rd hImh hc1 zb_13_4
        generalize hmm4 : zu_up mh a0 4 (mh a1 4) = m4
        have hIm4 := zi_up hmm4 hImh hc0 zb_25_4 (by omega) (by omega)
        have hFm4 := zfr_up hmm4 hFmh hc0 rfl
        have hM : (4 - 0) * 1 + 49 < (k : Int) := by omega
        exact ih.2.1 0 m4 hIm4 hFm4 ⟨by omega, by omega⟩ hM
      · have b5 : 0 ≤ x2 ∧ x2 < 16 := by omega
        refine zw_if b5 ?_
        have b6 : 0 ≤ x2 ∧ x2 < 16 := by omega
        refine zw_if b6 ?_
        refine zw_bd (zw_mono (zk_197_26_14 n hImh (zc_95_e (zc_25_1 hc0) b5) (zc_60_e (zc_13_1 hc1) b6)) (fun v8 m7 hqm7 => ?_))
        obtain ⟨hIm7, hfm7, hvm7⟩ := hqm7
        have hFm7 := zfr_tr hFmh hfm7 rfl
        have w9 := zu_w32_id (z := x2 + 1) (by omega) (by omega)
        have hM : (16 - (zu_w32 (x2 + 1))) * 1 + 54 < (k : Int) := by omega
        exact ih.1 (zu_w32 (x2 + 1)) m7 hIm7 hFm7 ⟨by omega, by omega⟩ hM
    · intro x2 mh hImh hFmh hbx2 hM
      refine zw_eq (zr_22b_49 n a0 a1 x2 mh) ?_
      have r10 : 0 ≤ (mh a0 4) ∧ (mh a0 4) ≤ 4 := zi_rd hImh hc0 zb_25_4
      refine zw_ite (fun h11 => ?_) (fun h11 => ?_)
      · have hM : (48 - 0) * 1 + 0 < (k : Int) := by omega
        exact ih.2.2 0 mh hImh hFmh ⟨by omega, by omega⟩ hM
      · have b12 : 0 ≤ x2 ∧ x2 < 4 := by omega
        refine zw_if b12 ?_
        have b13 : 0 ≤ x2 ∧ x2 < 4 := by omega
        refine zw_if b13 ?_
        refine zw_bd (zw_mono (zk_196_27_15 n hImh (zc_96_e (zc_25_3 hc0) b12) (zc_61_e (zc_13_3 hc1) b13)) (fun v15 m14 hqm14 => ?_))
        obtain ⟨hIm14, hfm14, hvm14⟩ := hqm14
        have hFm14 := zfr_tr hFmh hfm14 rfl
        have w16 := zu_w32_id (z := x2 + 1) (by omega) (by omega)
        have hM : (4 - (zu_w32 (x2 + 1))) * 1 + 49 < (k : Int) := by omega
        exact ih.2.1 (zu_w32 (x2 + 1)) m14 hIm14 hFm14 ⟨by omega, by omega⟩ hM
    · intro x2 mh hImh hFmh hbx2 hM
      refine zw_eq (zr_22b_80 n a0 a1 x2 mh) ?_
      refine zw_ite (fun h17 => ?_) (fun h17 => ?_)
      · have r18 : (-2147483648) ≤ (mh a1 8) ∧ (mh a1 8) ≤ 2147483647 := zi_rd hImh hc1 zb_13_8
        generalize hmm19 : zu_up mh a0 8 (mh a1 8) = m19
        have hIm19 := zi_up hmm19 hImh hc0 zb_25_8 (by omega) (by omega)
        have hFm19 := zfr_up hmm19 hFmh hc0 rfl
        have r20 : (-2147483648) ≤ (m19 a1 9) ∧ (m19 a1 9) ≤ 2147483647 := zi_rd hIm19 hc1 zb_13_9
        generalize hmm21 : zu_up m19 a0 9 (m19 a1 9) = m21
        have hIm21 := zi_up hmm21 hIm19 hc0 zb_25_9 (by omega) (by omega)
        have hFm21 := zfr_up hmm21 hFm19 hc0 rfl
        have r22 : 0 ≤ (m21 a1 10) ∧ (m21 a1 10) ≤ 3 := zi_rd hIm21 hc1 zb_13_10
        generalize hmm23 : zu_up m21 a0 10 (m21 a1 10) = m23
        have hIm23 := zi_up hmm23 hIm21 hc0 zb_25_10 (by omega) (by omega)
        have hFm23 := zfr_up hmm23 hFm21 hc0 rfl
        have r24 : (-2147483648) ≤ (m23 a1 11) ∧ (m23 a1 11) ≤ 2147483647 := zi_rd hIm23 hc1 zb_13_11
        generalize hmm25 : zu_up m23 a0 11 (m23 a1 11) = m25
        have hIm25 := zi_up hmm25 hIm23 hc0 zb_25_11 (by omega) (by omega)
        have hFm25 := zfr_up hmm25 hFm23 hc0 rfl
        exact zw_some ⟨hIm25, hFm25, trivial⟩
      · have b26 : 0 ≤ x2 ∧ x2 < 48 := by omega
        refine zw_if b26 ?_
        have r27 : 0 ≤ (mh (a1 + 3) x2) ∧ (mh (a1 + 3) x2) ≤ 1 := zi_rd hImh (zc_13_5 hc1) (zb_62 _)
        refine zw_b (by omega) ?_
        have b28 : 0 ≤ x2 ∧ x2 < 48 := by omega
        refine zw_if b28 ?_
        generalize hmm29 : zu_up mh (a0 + 3) x2 (mh (a1 + 3) x2) = m29
        have hIm29 := zi_up hmm29 hImh (zc_25_5 hc0) (zb_97 _) (by omega) (by omega)
        have hFm29 := zfr_up hmm29 hFmh (zc_25_5 hc0) rfl
        have b30 : 0 ≤ x2 ∧ x2 < 48 := by omega
        refine zw_if b30 ?_
        have r31 : 0 ≤ (m29 (a1 + 4) x2) ∧ (m29 (a1 + 4) x2) ≤ 999000 := zi_rd hIm29 (zc_13_6 hc1) (zb_63 _)
        have b32 : 0 ≤ x2 ∧ x2 < 48 := by omega
        refine zw_if b32 ?_
        generalize hmm33 : zu_up m29 (a0 + 4) x2 (m29 (a1 + 4) x2) = m33
        have hIm33 := zi_up hmm33 hIm29 (zc_25_6 hc0) (zb_98 _) (by omega) (by omega)
        have hFm33 := zfr_up hmm33 hFm29 (zc_25_6 hc0) rfl
        have w34 := zu_w32_id (z := x2 + 1) (by omega) (by omega)
        have hM : (48 - (zu_w32 (x2 + 1))) * 1 + 0 < (k : Int) := by omega
        exact ih.2.2 (zu_w32 (x2 + 1)) m33 hIm33 hFm33 ⟨by omega, by omega⟩ hM
set_option maxHeartbeats 4000000 in
theorem zk_22_25_13 (n : Nat) {a0 a1 : Int} {m0 : zu_m} (hIm0 : zi_I m0) (hc0 : zcls a0 = 25) (hc1 : zcls a1 = 13)      : zw (zu_call (zt_T n) 22 [(27, a0), (27, a1)] m0) (fun v m => zi_I m ∧ zfr [(25, 3), (25, 5), (25, 9), (25, 10), (25, 11), (25, 12), (26, 1), (26, 2), (26, 3), (26, 4), (27, 1), (27, 2), (27, 3), (27, 4), (27, 5), (27, 6), (27, 7), (27, 8), (97, 0), (98, 0)] m0 m ∧ True) := by
  have hFm0 : zfr [(25, 3), (25, 5), (25, 9), (25, 10), (25, 11), (25, 12), (26, 1), (26, 2), (26, 3), (26, 4), (27, 1), (27, 2), (27, 3), (27, 4), (27, 5), (27, 6), (27, 7), (27, 8), (97, 0), (98, 0)] m0 m0 := zfr_rf _ _
  refine zw_eq (zr_22b_0 n a0 a1 m0) ?_
  have r35 : 0 ≤ (m0 a1 2) ∧ (m0 a1 2) ≤ 16 := zi_rd hIm0 hc1 zb_13_2
  generalize hmm36 : zu_up m0 a0 2 (m0 a1 2) = m36
  have hIm36 := zi_up hmm36 hIm0 hc0 zb_25_2 (by omega) (by omega)
  have hFm36 := zfr_up hmm36 hFm0 hc0 rfl
  have hM : (16 - 0) * 1 + 54 < ((71 : Nat) : Int) := by omega
  exact (zl_22_25_13 n (m0 := m0) hc0 hc1 71).1 0 m36 hIm36 hFm36 ⟨by omega, by omega⟩ hM
set_option maxHeartbeats 4000000 in
theorem zl_22_25_16 (n : Nat) {a0 a1 : Int} {m0 : zu_m} (hc0 : zcls a0 = 25) (hc1 : zcls a1 = 16)  : ∀ k : Nat, (∀ (x2 : Int) (mh : zu_m), zi_I mh → zfr [(25, 3), (25, 5), (25, 9), (25, 10), (25, 11), (25, 12), (26, 1), (26, 2), (26, 3), (26, 4), (27, 1), (27, 2), (27, 3), (27, 4), (27, 5), (27, 6), (27, 7), (27, 8), (97, 0), (98, 0)] m0 mh → (0 ≤ x2 ∧ x2 ≤ 16) → (16 - x2) * 1 + 54 < (k : Int) → zw (zu_ex (zt_T n) 22 10 [(27, a0), (27, a1), (0, x2)] [] mh) (fun v m => zi_I m ∧ zfr [(25, 3), (25, 5), (25, 9), (25, 10), (25, 11), (25, 12), (26, 1), (26, 2), (26, 3), (26, 4), (27, 1), (27, 2), (27, 3), (27, 4), (27, 5), (27, 6), (27, 7), (27, 8), (97, 0), (98, 0)] m0 m ∧ True)) ∧ (∀ (x2 : Int) (mh : zu_m), zi_I mh → zfr [(25, 3), (25, 5), (25, 9), (25, 10), (25, 11), (25, 12), (26, 1), (26, 2), (26, 3), (26, 4), (27, 1), (27, 2), (27, 3), (27, 4), (27, 5), (27, 6), (27, 7), (27, 8), (97, 0), (98, 0)] m0 mh → (0 ≤ x2 ∧ x2 ≤ 4) → (4 - x2) * 1 + 49 < (k : Int) → zw (zu_ex (zt_T n) 22 49 [(27, a0), (27, a1), (0, x2)] [] mh) (fun v m => zi_I m ∧ zfr [(25, 3), (25, 5), (25, 9), (25, 10), (25, 11), (25, 12), (26, 1), (26, 2), (26, 3), (26, 4), (27, 1), (27, 2), (27, 3), (27, 4), (27, 5), (27, 6), (27, 7), (27, 8), (97, 0), (98, 0)] m0 m ∧ True)) ∧ (∀ (x2 : Int) (mh : zu_m), zi_I mh → zfr [(25, 3), (25, 5), (25, 9), (25, 10), (25, 11), (25, 12), (26, 1), (26, 2), (26, 3), (26, 4), (27, 1), (27, 2), (27, 3), (27, 4), (27, 5), (27, 6), (27, 7), (27, 8), (97, 0), (98, 0)] m0 mh → (0 ≤ x2 ∧ x2 ≤ 48) → (48 - x2) * 1 + 0 < (k : Int) → zw (zu_ex (zt_T n) 22 80 [(27, a0), (27, a1), (0, x2)] [] mh) (fun v m => zi_I m ∧ zfr [(25, 3), (25, 5), (25, 9), (25, 10), (25, 11), (25, 12), (26, 1), (26, 2), (26, 3), (26, 4), (27, 1), (27, 2), (27, 3), (27, 4), (27, 5), (27, 6), (27, 7), (27, 8), (97, 0), (98, 0)] m0 m ∧ True)) := by
  intro k
  induction k with
  | zero => exact ⟨fun x2 mh hImh hFmh hbx2 hM => by exfalso; omega, fun x2 mh hImh hFmh hbx2 hM => by exfalso; omega, fun x2 mh hImh hFmh hbx2 hM => by exfalso; omega⟩
  | succ k ih =>
    refine ⟨?_, ?_, ?_⟩
    · intro x2 mh hImh hFmh hbx2 hM
      refine zw_eq (zr_22b_10 n a0 a1 x2 mh) ?_
      have r1 : 0 ≤ (mh a0 2) ∧ (mh a0 2) ≤ 16 := zi_rd hImh hc0 zb_25_2
      refine zw_ite (fun h2 => ?_) (fun h2 => ?_)
      · have r3 : 0 ≤ (mh a1 4) ∧ (mh a1 4) ≤ 4 := zi_rd hImh hc1 zb_16_4
        generalize hmm4 : zu_up mh a0 4 (mh a1 4) = m4
        have hIm4 := zi_up hmm4 hImh hc0 zb_25_4 (by omega) (by omega)
        have hFm4 := zfr_up hmm4 hFmh hc0 rfl
        have hM : (4 - 0) * 1 + 49 < (k : Int) := by omega
        exact ih.2.1 0 m4 hIm4 hFm4 ⟨by omega, by omega⟩ hM
      · have b5 : 0 ≤ x2 ∧ x2 < 16 := by omega
        refine zw_if b5 ?_
        have b6 : 0 ≤ x2 ∧ x2 < 16 := by omega
        refine zw_if b6 ?_
        refine zw_bd (zw_mono (zk_197_26_17 n hImh (zc_95_e (zc_25_1 hc0) b5) (zc_65_e (zc_16_1 hc1) b6)) (fun v8 m7 hqm7 => ?_))
        obtain ⟨hIm7, hfm7, hvm7⟩ := hqm7
        have hFm7 := zfr_tr hFmh hfm7 rfl
        have w9 := zu_w32_id (z := x2 + 1) (by omega) (by omega)
        have hM : (16 - (zu_w32 (x2 + 1))) * 1 + 54 < (k : Int) := by omega
        exact ih.1 (zu_w32 (x2 + 1)) m7 hIm7 hFm7 ⟨by omega, by omega⟩ hM
    · intro x2 mh hImh hFmh hbx2 hM
      refine zw_eq (zr_22b_49 n a0 a1 x2 mh) ?_
      have r10 : 0 ≤ (mh a0 4) ∧ (mh a0 4) ≤ 4 := zi_rd hImh hc0 zb_25_4
      refine zw_ite (fun h11 => ?_) (fun h11 => ?_)
      · have hM : (48 - 0) * 1 + 0 < (k : Int) := by omega
        exact ih.2.2 0 mh hImh hFmh ⟨by omega, by omega⟩ hM
      · have b12 : 0 ≤ x2 ∧ x2 < 4 := by omega
        refine zw_if b12 ?_
        have b13 : 0 ≤ x2 ∧ x2 < 4 := by omega
        refine zw_if b13 ?_
        refine zw_bd (zw_mono (zk_196_27_18 n hImh (zc_96_e (zc_25_3 hc0) b12) (zc_66_e (zc_16_3 hc1) b13)) (fun v15 m14 hqm14 => ?_))
        obtain ⟨hIm14, hfm14, hvm14⟩ := hqm14
        have hFm14 := zfr_tr hFmh hfm14 rfl
        have w16 := zu_w32_id (z := x2 + 1) (by omega) (by omega)
        have hM : (4 - (zu_w32 (x2 + 1))) * 1 + 49 < (k : Int) := by omega
        exact ih.2.1 (zu_w32 (x2 + 1)) m14 hIm14 hFm14 ⟨by omega, by omega⟩ hM
    · intro x2 mh hImh hFmh hbx2 hM
      refine zw_eq (zr_22b_80 n a0 a1 x2 mh) ?_
      refine zw_ite (fun h17 => ?_) (fun h17 => ?_)
      · have r18 : (-2147483648) ≤ (mh a1 8) ∧ (mh a1 8) ≤ 2147483647 := zi_rd hImh hc1 zb_16_8
        generalize hmm19 : zu_up mh a0 8 (mh a1 8) = m19
        have hIm19 := zi_up hmm19 hImh hc0 zb_25_8 (by omega) (by omega)
        have hFm19 := zfr_up hmm19 hFmh hc0 rfl
        have r20 : (-2147483648) ≤ (m19 a1 9) ∧ (m19 a1 9) ≤ 2147483647 := zi_rd hIm19 hc1 zb_16_9
        generalize hmm21 : zu_up m19 a0 9 (m19 a1 9) = m21
        have hIm21 := zi_up hmm21 hIm19 hc0 zb_25_9 (by omega) (by omega)
        have hFm21 := zfr_up hmm21 hFm19 hc0 rfl
        have r22 : 0 ≤ (m21 a1 10) ∧ (m21 a1 10) ≤ 3 := zi_rd hIm21 hc1 zb_16_10
        generalize hmm23 : zu_up m21 a0 10 (m21 a1 10) = m23
        have hIm23 := zi_up hmm23 hIm21 hc0 zb_25_10 (by omega) (by omega)
        have hFm23 := zfr_up hmm23 hFm21 hc0 rfl
        have r24 : (-2147483648) ≤ (m23 a1 11) ∧ (m23 a1 11) ≤ 2147483647 := zi_rd hIm23 hc1 zb_16_11
        generalize hmm25 : zu_up m23 a0 11 (m23 a1 11) = m25
        have hIm25 := zi_up hmm25 hIm23 hc0 zb_25_11 (by omega) (by omega)
        have hFm25 := zfr_up hmm25 hFm23 hc0 rfl
        exact zw_some ⟨hIm25, hFm25, trivial⟩
      · have b26 : 0 ≤ x2 ∧ x2 < 48 := by omega
        refine zw_if b26 ?_
        have r27 : 0 ≤ (mh (a1 + 3) x2) ∧ (mh (a1 + 3) x2) ≤ 1 := zi_rd hImh (zc_16_5 hc1) (zb_67 _)
        refine zw_b (by omega) ?_
        have b28 : 0 ≤ x2 ∧ x2 < 48 := by omega
        refine zw_if b28 ?_
        generalize hmm29 : zu_up mh (a0 + 3) x2 (mh (a1 + 3) x2) = m29
        have hIm29 := zi_up hmm29 hImh (zc_25_5 hc0) (zb_97 _) (by omega) (by omega)
        have hFm29 := zfr_up hmm29 hFmh (zc_25_5 hc0) rfl
        have b30 : 0 ≤ x2 ∧ x2 < 48 := by omega
        refine zw_if b30 ?_
        have r31 : 0 ≤ (m29 (a1 + 4) x2) ∧ (m29 (a1 + 4) x2) ≤ 999000 := zi_rd hIm29 (zc_16_6 hc1) (zb_68 _)
        have b32 : 0 ≤ x2 ∧ x2 < 48 := by omega
        refine zw_if b32 ?_
        generalize hmm33 : zu_up m29 (a0 + 4) x2 (m29 (a1 + 4) x2) = m33
        have hIm33 := zi_up hmm33 hIm29 (zc_25_6 hc0) (zb_98 _) (by omega) (by omega)
        have hFm33 := zfr_up hmm33 hFm29 (zc_25_6 hc0) rfl
        have w34 := zu_w32_id (z := x2 + 1) (by omega) (by omega)
        have hM : (48 - (zu_w32 (x2 + 1))) * 1 + 0 < (k : Int) := by omega
        exact ih.2.2 (zu_w32 (x2 + 1)) m33 hIm33 hFm33 ⟨by omega, by omega⟩ hM
set_option maxHeartbeats 4000000 in
theorem zk_22_25_16 (n : Nat) {a0 a1 : Int} {m0 : zu_m} (hIm0 : zi_I m0) (hc0 : zcls a0 = 25) (hc1 : zcls a1 = 16)      : zw (zu_call (zt_T n) 22 [(27, a0), (27, a1)] m0) (fun v m => zi_I m ∧ zfr [(25, 3), (25, 5), (25, 9), (25, 10), (25, 11), (25, 12), (26, 1), (26, 2), (26, 3), (26, 4), (27, 1), (27, 2), (27, 3), (27, 4), (27, 5), (27, 6), (27, 7), (27, 8), (97, 0), (98, 0)] m0 m ∧ True) := by
  have hFm0 : zfr [(25, 3), (25, 5), (25, 9), (25, 10), (25, 11), (25, 12), (26, 1), (26, 2), (26, 3), (26, 4), (27, 1), (27, 2), (27, 3), (27, 4), (27, 5), (27, 6), (27, 7), (27, 8), (97, 0), (98, 0)] m0 m0 := zfr_rf _ _
  refine zw_eq (zr_22b_0 n a0 a1 m0) ?_
  have r35 : 0 ≤ (m0 a1 2) ∧ (m0 a1 2) ≤ 16 := zi_rd hIm0 hc1 zb_16_2
  generalize hmm36 : zu_up m0 a0 2 (m0 a1 2) = m36
  have hIm36 := zi_up hmm36 hIm0 hc0 zb_25_2 (by omega) (by omega)
  have hFm36 := zfr_up hmm36 hFm0 hc0 rfl
  have hM : (16 - 0) * 1 + 54 < ((71 : Nat) : Int) := by omega
  exact (zl_22_25_16 n (m0 := m0) hc0 hc1 71).1 0 m36 hIm36 hFm36 ⟨by omega, by omega⟩ hM
set_option maxHeartbeats 4000000 in
theorem zl_26 (n : Nat) {a0 a1 a2 : Int} {m0 : zu_m} (hc0 : zcls a0 = 12) (hc2 : zcls a2 = 59)  : ∀ k : Nat, (∀ (x3 x4 : Int) (mh : zu_m), zi_I mh → zfr [(56, 0)] m0 mh → (0 ≤ a1 ∧ a1 ≤ 3) → (0 ≤ x3 ∧ x3 ≤ 64) → (0 ≤ x4 ∧ x4 ≤ 64) → (x3 ≤ x4 - (m0 (a0 + 3) a1)) → (0 ≤ (m0 (a0 + 3) a1)) → (zR_K54 mh) → (64 - x4) * 1 + 0 < (k : Int) → zw (zu_ex (zt_T n) 26 23 [(10, a0), (0, a1), (15, a2), (0, x3), (0, x4), (2, 0), (2, 0)] [] mh) (fun v m => zi_I m ∧ zfr [(56, 0)] m0 m ∧ zR_K54 m ∧ ((-9223372036854775808) ≤ v ∧ v ≤ 9223372036854775807))) := by
  intro k
  induction k with
  | zero => exact fun x3 x4 mh hImh hFmh hba1 hbx3 hbx4 hr3 hr4 hRK54mh hM => by exfalso; omega
  | succ k ih =>
    intro x3 x4 mh hImh hFmh hba1 hbx3 hbx4 hr3 hr4 hRK54mh hM
    refine zw_eq (zr_26_23 n a0 a1 a2 x3 x4 mh) ?_
    have b1 : 0 ≤ a1 ∧ a1 < 4 := by omega
    refine zw_if b1 ?_
    have r2 : (-1) ≤ (mh (a0 + 4) a1) ∧ (mh (a0 + 4) a1) ≤ 64 := zi_rd hImh (zc_12_3 hc0) (zb_55 _)
    refine zw_ite (fun h3 => ?_) (fun h3 => ?_)
    · refine zw_ite (fun h4 => ?_) (fun h4 => ?_)
      · exact zw_some ⟨hImh, hFmh, hRK54mh, ⟨by omega, by omega⟩⟩
      · have b5 : 0 ≤ (0 : Int) ∧ (0 : Int) < 64 := by omega
        refine zw_if b5 ?_
        have r6 : (-9223372036854775808) ≤ (mh (a0 + 5) 0) ∧ (mh (a0 + 5) 0) ≤ 9223372036854775807 := zi_rd hImh (zc_12_4 hc0) (zb_56 _)
        exact zw_some ⟨hImh, hFmh, hRK54mh, ⟨by omega, by omega⟩⟩
    · refine zw_ite (fun h7 => ?_) (fun h7 => ?_)
      · exfalso; omega
      · have b8 : 0 ≤ x4 ∧ x4 < 64 := by omega
        refine zw_if b8 ?_
        have r9 : 0 ≤ (mh (a0 + 1) x4) ∧ (mh (a0 + 1) x4) ≤ 17 := zi_rd hImh (zc_12_0 hc0) (zb_52 _)
        refine zw_ite (fun h10 => ?_) (fun h10 => ?_)
        · have b11 : 0 ≤ x4 ∧ x4 < 64 := by omega
          refine zw_if b11 ?_
          refine zw_ite (fun h12 => ?_) (fun h12 => ?_)
          · have b13 : 0 ≤ x4 ∧ x4 < 64 := by omega
            refine zw_if b13 ?_
            refine zw_ite (fun h14 => ?_) (fun h14 => ?_)
            · refine zw_ite (fun h15 => ?_) (fun h15 => ?_)
              · have w16 := zu_w32_id (z := x3 + (-1)) (by omega) (by omega)
                have b17 : 0 ≤ x4 ∧ x4 < 64 := by omega
                refine zw_if b17 ?_
                refine zw_ite (fun h18 => ?_) (fun h18 => ?_)
                · have b19 : 0 ≤ x4 ∧ x4 < 64 := by omega
                  refine zw_if b19 ?_
                  have w20 := zu_w32_id (z := (zu_w32 (x3 + (-1))) - 1) (by omega) (by omega)
                  have b21 : 0 ≤ (zu_w32 ((zu_w32 (x3 + (-1))) - 1)) ∧ (zu_w32 ((zu_w32 (x3 + (-1))) - 1)) < 64 := by omega
                  refine zw_if b21 ?_
                  have r22 : (-9223372036854775808) ≤ (mh (a0 + 5) (zu_w32 ((zu_w32 (x3 + (-1))) - 1))) ∧ (mh (a0 + 5) (zu_w32 ((zu_w32 (x3 + (-1))) - 1))) ≤ 9223372036854775807 := zi_rd hImh (zc_12_4 hc0) (zb_56 _)
                  have b23 : 0 ≤ (zu_w32 (x3 + (-1))) ∧ (zu_w32 (x3 + (-1))) < 64 := by omega
                  refine zw_if b23 ?_
                  have r24 : (-9223372036854775808) ≤ (mh (a0 + 5) (zu_w32 (x3 + (-1)))) ∧ (mh (a0 + 5) (zu_w32 (x3 + (-1)))) ≤ 9223372036854775807 := zi_rd hImh (zc_12_4 hc0) (zb_56 _)
                  refine zw_bd (zw_mono (zk_209 n hImh ⟨by omega, by omega⟩ ⟨by omega, by omega⟩ ⟨by omega, by omega⟩) (fun v26 m25 hqm25 => ?_))
                  obtain ⟨hIm25, hfm25, hvm25⟩ := hqm25
                  have hFm25 := zfr_tr hFmh hfm25 rfl
                  have hRK54m25 := zR_K54_fr (zdis_fr hfm25 rfl) hRK54mh
                  refine zw_ite (fun h27 => ?_) (fun h27 => ?_)
                  · have c28 := zu_lcmp_sp 0 1000000000000
                    refine zw_ite (fun h29 => ?_) (fun h29 => ?_)
                    · exfalso; omega
                    · have c30 := zu_lcmp_sp 0 (-1000000000000)
                      refine zw_ite (fun h31 => ?_) (fun h31 => ?_)
                      · have b32 : 0 ≤ (zu_w32 ((zu_w32 (x3 + (-1))) - 1)) ∧ (zu_w32 ((zu_w32 (x3 + (-1))) - 1)) < 64 := by omega
                        refine zw_if b32 ?_
                        generalize hmm33 : zu_up m25 (a0 + 5) (zu_w32 ((zu_w32 (x3 + (-1))) - 1)) 0 = m33
                        have hIm33 := zi_up hmm33 hIm25 (zc_12_4 hc0) (zb_56 _) (by omega) (by omega)
                        have hFm33 := zfr_up hmm33 hFm25 (zc_12_4 hc0) rfl
                        have hRK54m33 := zR_K54_fr (zdis_fr (zfr_up hmm33 (zfr_rf [(56, 0)] _) (zc_12_4 hc0) rfl) rfl) hRK54m25
                        have w34 := zu_w32_id (z := x4 + 1) (by omega) (by omega)
                        have hM : (64 - (zu_w32 (x4 + 1))) * 1 + 0 < (k : Int) := by omega
                        exact zw_le (zu_forget (zu_lr_same (zu_lr_same (zu_lr_same (zu_lr_same (zu_lr_same (zu_lr_drop (zu_lr_same zu_lr_nil)))))))) (ih (zu_w32 (x3 + (-1))) (zu_w32 (x4 + 1)) m33 hIm33 hFm33 ⟨by omega, by omega⟩ ⟨by omega, by omega⟩ ⟨by omega, by omega⟩ (by omega) (by omega) hRK54m33 hM)
                      · exfalso; omega
                  · have c35 := zu_lcmp_sp 1 1000000000000
                    refine zw_ite (fun h36 => ?_) (fun h36 => ?_)
                    · exfalso; omega
                    · have c37 := zu_lcmp_sp 1 (-1000000000000)
                      refine zw_ite (fun h38 => ?_) (fun h38 => ?_)
                      · have b39 : 0 ≤ (zu_w32 ((zu_w32 (x3 + (-1))) - 1)) ∧ (zu_w32 ((zu_w32 (x3 + (-1))) - 1)) < 64 := by omega
                        refine zw_if b39 ?_
                        generalize hmm40 : zu_up m25 (a0 + 5) (zu_w32 ((zu_w32 (x3 + (-1))) - 1)) 1 = m40
                        have hIm40 := zi_up hmm40 hIm25 (zc_12_4 hc0) (zb_56 _) (by omega) (by omega)
                        have hFm40 := zfr_up hmm40 hFm25 (zc_12_4 hc0) rfl
                        have hRK54m40 := zR_K54_fr (zdis_fr (zfr_up hmm40 (zfr_rf [(56, 0)] _) (zc_12_4 hc0) rfl) rfl) hRK54m25
                        have w41 := zu_w32_id (z := x4 + 1) (by omega) (by omega)
                        have hM : (64 - (zu_w32 (x4 + 1))) * 1 + 0 < (k : Int) := by omega
                        exact zw_le (zu_forget (zu_lr_same (zu_lr_same (zu_lr_same (zu_lr_same (zu_lr_same (zu_lr_drop (zu_lr_same zu_lr_nil)))))))) (ih (zu_w32 (x3 + (-1))) (zu_w32 (x4 + 1)) m40 hIm40 hFm40 ⟨by omega, by omega⟩ ⟨by omega, by omega⟩ ⟨by omega, by omega⟩ (by omega) (by omega) hRK54m40 hM)
                      · exfalso; omega
                · have b42 : 0 ≤ x4 ∧ x4 < 64 := by omega
                  refine zw_if b42 ?_
                  have w43 := zu_w32_id (z := (zu_w32 (x3 + (-1))) - 1) (by omega) (by omega)
                  have b44 : 0 ≤ (zu_w32 ((zu_w32 (x3 + (-1))) - 1)) ∧ (zu_w32 ((zu_w32 (x3 + (-1))) - 1)) < 64 := by omega
                  refine zw_if b44 ?_
                  have r45 : (-9223372036854775808) ≤ (mh (a0 + 5) (zu_w32 ((zu_w32 (x3 + (-1))) - 1))) ∧ (mh (a0 + 5) (zu_w32 ((zu_w32 (x3 + (-1))) - 1))) ≤ 9223372036854775807 := zi_rd hImh (zc_12_4 hc0) (zb_56 _)
                  have b46 : 0 ≤ (zu_w32 (x3 + (-1))) ∧ (zu_w32 (x3 + (-1))) < 64 := by omega
                  refine zw_if b46 ?_
                  have r47 : (-9223372036854775808) ≤ (mh (a0 + 5) (zu_w32 (x3 + (-1)))) ∧ (mh (a0 + 5) (zu_w32 (x3 + (-1)))) ≤ 9223372036854775807 := zi_rd hImh (zc_12_4 hc0) (zb_56 _)
                  refine zw_bd (zw_mono (zk_208 n hImh ⟨by omega, by omega⟩ ⟨by omega, by omega⟩ ⟨by omega, by omega⟩) (fun v49 m48 hqm48 => ?_))
                  obtain ⟨hIm48, hfm48, hvm48⟩ := hqm48
                  have hFm48 := zfr_tr hFmh hfm48 rfl
                  have hRK54m48 := zR_K54_fr (zdis_fr hfm48 rfl) hRK54mh
                  have c50 := zu_lcmp_sp v49 1000000000000
                  refine zw_ite (fun h51 => ?_) (fun h51 => ?_)
                  · exact zw_some ⟨hIm48, hFm48, hRK54m48, ⟨by omega, by omega⟩⟩
                  · have c52 := zu_lcmp_sp v49 (-1000000000000)
                    refine zw_ite (fun h53 => ?_) (fun h53 => ?_)
                    · have b54 : 0 ≤ (zu_w32 ((zu_w32 (x3 + (-1))) - 1)) ∧ (zu_w32 ((zu_w32 (x3 + (-1))) - 1)) < 64 := by omega
                      refine zw_if b54 ?_
                      generalize hmm55 : zu_up m48 (a0 + 5) (zu_w32 ((zu_w32 (x3 + (-1))) - 1)) v49 = m55
                      have hIm55 := zi_up hmm55 hIm48 (zc_12_4 hc0) (zb_56 _) (by omega) (by omega)
                      have hFm55 := zfr_up hmm55 hFm48 (zc_12_4 hc0) rfl
                      have hRK54m55 := zR_K54_fr (zdis_fr (zfr_up hmm55 (zfr_rf [(56, 0)] _) (zc_12_4 hc0) rfl) rfl) hRK54m48
                      have w56 := zu_w32_id (z := x4 + 1) (by omega) (by omega)
                      have hM : (64 - (zu_w32 (x4 + 1))) * 1 + 0 < (k : Int) := by omega
                      exact zw_le (zu_forget (zu_lr_same (zu_lr_same (zu_lr_same (zu_lr_same (zu_lr_same (zu_lr_drop (zu_lr_same zu_lr_nil)))))))) (ih (zu_w32 (x3 + (-1))) (zu_w32 (x4 + 1)) m55 hIm55 hFm55 ⟨by omega, by omega⟩ ⟨by omega, by omega⟩ ⟨by omega, by omega⟩ (by omega) (by omega) hRK54m55 hM)
                    · exact zw_some ⟨hIm48, hFm48, hRK54m48, ⟨by omega, by omega⟩⟩
              · exact zw_some ⟨hImh, hFmh, hRK54mh, ⟨by omega, by omega⟩⟩
            · refine zw_ite (fun h57 => ?_) (fun h57 => ?_)
              · have w58 := zu_w32_id (z := x3 - 1) (by omega) (by omega)
                have b59 : 0 ≤ (zu_w32 (x3 - 1)) ∧ (zu_w32 (x3 - 1)) < 64 := by omega
                refine zw_if b59 ?_
                have r60 : (-9223372036854775808) ≤ (mh (a0 + 5) (zu_w32 (x3 - 1))) ∧ (mh (a0 + 5) (zu_w32 (x3 - 1))) ≤ 9223372036854775807 := zi_rd hImh (zc_12_4 hc0) (zb_56 _)
                have c61 := zu_lcmp_sp (mh (a0 + 5) (zu_w32 (x3 - 1))) 0
                refine zw_ite (fun h62 => ?_) (fun h62 => ?_)
                · have b63 : 0 ≤ (zu_w32 (x3 - 1)) ∧ (zu_w32 (x3 - 1)) < 64 := by omega
                  refine zw_if b63 ?_
                  generalize hmm64 : zu_up mh (a0 + 5) (zu_w32 (x3 - 1)) 0 = m64
                  have hIm64 := zi_up hmm64 hImh (zc_12_4 hc0) (zb_56 _) (by omega) (by omega)
                  have hFm64 := zfr_up hmm64 hFmh (zc_12_4 hc0) rfl
                  have hRK54m64 := zR_K54_fr (zdis_fr (zfr_up hmm64 (zfr_rf [(56, 0)] _) (zc_12_4 hc0) rfl) rfl) hRK54mh
                  have w65 := zu_w32_id (z := x4 + 1) (by omega) (by omega)
                  have hM : (64 - (zu_w32 (x4 + 1))) * 1 + 0 < (k : Int) := by omega
                  exact ih x3 (zu_w32 (x4 + 1)) m64 hIm64 hFm64 ⟨by omega, by omega⟩ ⟨by omega, by omega⟩ ⟨by omega, by omega⟩ (by omega) (by omega) hRK54m64 hM
                · have b66 : 0 ≤ (zu_w32 (x3 - 1)) ∧ (zu_w32 (x3 - 1)) < 64 := by omega
                  refine zw_if b66 ?_
                  generalize hmm67 : zu_up mh (a0 + 5) (zu_w32 (x3 - 1)) 1 = m67
                  have hIm67 := zi_up hmm67 hImh (zc_12_4 hc0) (zb_56 _) (by omega) (by omega)
                  have hFm67 := zfr_up hmm67 hFmh (zc_12_4 hc0) rfl
                  have hRK54m67 := zR_K54_fr (zdis_fr (zfr_up hmm67 (zfr_rf [(56, 0)] _) (zc_12_4 hc0) rfl) rfl) hRK54mh
                  have w68 := zu_w32_id (z := x4 + 1) (by omega) (by omega)
                  have hM : (64 - (zu_w32 (x4 + 1))) * 1 + 0 < (k : Int) := by omega
                  exact ih x3 (zu_w32 (x4 + 1)) m67 hIm67 hFm67 ⟨by omega, by omega⟩ ⟨by omega, by omega⟩ ⟨by omega, by omega⟩ (by omega) (by omega) hRK54m67 hM
              · exact zw_some ⟨hImh, hFmh, hRK54mh, ⟨by omega, by omega⟩⟩
          · have b69 : 0 ≤ x4 ∧ x4 < 64 := by omega
            refine zw_if b69 ?_
            have r70 : (-2147483648) ≤ (mh (a0 + 2) x4) ∧ (mh (a0 + 2) x4) ≤ 2147483647 := zi_rd hImh (zc_12_1 hc0) (zb_53 _)
            have s71 := hRK54mh a0 x4 hc0 (by omega) (by omega) (by omega)
            have b72 : 0 ≤ (mh (a0 + 2) x4) ∧ (mh (a0 + 2) x4) < 7 := by omega
            refine zw_if b72 ?_
            have r73 : (-2147483648) ≤ (mh a2 (mh (a0 + 2) x4)) ∧ (mh a2 (mh (a0 + 2) x4)) ≤ 2147483647 := zi_rdr (m := 7) (r0 := 0) (r1 := 6) hImh hc2 (by omega) (by decide +kernel)
            have b74 : 0 ≤ x3 ∧ x3 < 64 := by omega
            refine zw_if b74 ?_
            generalize hmm75 : zu_up mh (a0 + 5) x3 (mh a2 (mh (a0 + 2) x4)) = m75
            have hIm75 := zi_up hmm75 hImh (zc_12_4 hc0) (zb_56 _) (by omega) (by omega)
            have hFm75 := zfr_up hmm75 hFmh (zc_12_4 hc0) rfl
            have hRK54m75 := zR_K54_fr (zdis_fr (zfr_up hmm75 (zfr_rf [(56, 0)] _) (zc_12_4 hc0) rfl) rfl) hRK54mh
            have w76 := zu_w32_id (z := x3 + 1) (by omega) (by omega)
            have w77 := zu_w32_id (z := x4 + 1) (by omega) (by omega)
            have hM : (64 - (zu_w32 (x4 + 1))) * 1 + 0 < (k : Int) := by omega
            exact ih (zu_w32 (x3 + 1)) (zu_w32 (x4 + 1)) m75 hIm75 hFm75 ⟨by omega, by omega⟩ ⟨by omega, by omega⟩ ⟨by omega, by omega⟩ (by omega) (by omega) hRK54m75 hM
        · have b78 : 0 ≤ x4 ∧ x4 < 64 := by omega
          refine zw_if b78 ?_
          have r79 : (-2147483648) ≤ (mh (a0 + 2) x4) ∧ (mh (a0 + 2) x4) ≤ 2147483647 := zi_rd hImh (zc_12_1 hc0) (zb_53 _)
          have b80 : 0 ≤ x3 ∧ x3 < 64 := by omega
          refine zw_if b80 ?_
          generalize hmm81 : zu_up mh (a0 + 5) x3 (mh (a0 + 2) x4) = m81
          have hIm81 := zi_up hmm81 hImh (zc_12_4 hc0) (zb_56 _) (by omega) (by omega)
          have hFm81 := zfr_up hmm81 hFmh (zc_12_4 hc0) rfl
          have hRK54m81 := zR_K54_fr (zdis_fr (zfr_up hmm81 (zfr_rf [(56, 0)] _) (zc_12_4 hc0) rfl) rfl) hRK54mh
          have w82 := zu_w32_id (z := x3 + 1) (by omega) (by omega)
          have w83 := zu_w32_id (z := x4 + 1) (by omega) (by omega)
          have hM : (64 - (zu_w32 (x4 + 1))) * 1 + 0 < (k : Int) := by omega
          exact ih (zu_w32 (x3 + 1)) (zu_w32 (x4 + 1)) m81 hIm81 hFm81 ⟨by omega, by omega⟩ ⟨by omega, by omega⟩ ⟨by omega, by omega⟩ (by omega) (by omega) hRK54m81 hM
set_option maxHeartbeats 4000000 in
theorem zk_26 (n : Nat) {a0 a1 a2 : Int} {m0 : zu_m} (hIm0 : zi_I m0) (hc0 : zcls a0 = 12) (hc2 : zcls a2 = 59) (ha1 : 0 ≤ a1 ∧ a1 ≤ 3)    (hRK54m0 : zR_K54 m0) : zw (zu_call (zt_T n) 26 [(10, a0), (0, a1), (15, a2)] m0) (fun v m => zi_I m ∧ zfr [(56, 0)] m0 m ∧ zR_K54 m ∧ ((-9223372036854775808) ≤ v ∧ v ≤ 9223372036854775807)) := by
  have hFm0 : zfr [(56, 0)] m0 m0 := zfr_rf _ _
  refine zw_eq (zr_26_0 n a0 a1 a2 m0) ?_
  have b84 : 0 ≤ a1 ∧ a1 < 4 := by omega
  refine zw_if b84 ?_
  have r85 : (-1) ≤ (m0 (a0 + 3) a1) ∧ (m0 (a0 + 3) a1) ≤ 64 := zi_rd hIm0 (zc_12_2 hc0) (zb_54 _)
  refine zw_ite (fun h86 => ?_) (fun h86 => ?_)
  · have b87 : 0 ≤ a1 ∧ a1 < 4 := by omega
    refine zw_if b87 ?_
    have hM : (64 - (m0 (a0 + 3) a1)) * 1 + 0 < ((65 : Nat) : Int) := by omega
    exact (zl_26 n (m0 := m0) hc0 hc2 65) 0 (m0 (a0 + 3) a1) m0 hIm0 hFm0 ⟨by omega, by omega⟩ ⟨by omega, by omega⟩ ⟨by omega, by omega⟩ (by omega) (by omega) hRK54m0 hM
  · exact zw_some ⟨hIm0, hFm0, hRK54m0, ⟨by omega, by omega⟩⟩
set_option maxHeartbeats 4000000 in
theorem zk_40 (n : Nat) {a0 a1 a2 a3 a4 a5 : Int} {m0 : zu_m} (hIm0 : zi_I m0) (hc0 : zcls a0 = 2) (ha1 : (-2147483648) ≤ a1 ∧ a1 ≤ 2147483647) (ha2 : (-2147483648) ≤ a2 ∧ a2 ≤ 2147483647) (ha3 : (-2147483648) ≤ a3 ∧ a3 ≤ 2147483647) (ha4 : (-2147483648) ≤ a4 ∧ a4 ≤ 2147483647) (ha5 : (-2147483648) ≤ a5 ∧ a5 ≤ 2147483647)     : zw (zu_call (zt_T n) 40 [(5, a0), (0, a1), (0, a2), (0, a3), (0, a4), (0, a5)] m0) (fun v m => zi_I m ∧ zfr [(2, 2), (29, 0)] m0 m ∧ ((-1) ≤ v ∧ v ≤ 700)) := by
  have hFm0 : zfr [(2, 2), (29, 0)] m0 m0 := zfr_rf _ _
  refine zw_eq (zr_40_0 n a0 a1 a2 a3 a4 a5 m0) ?_
  have r1 : 0 ≤ (m0 a0 1) ∧ (m0 a0 1) ≤ 700 := zi_rd hIm0 hc0 zb_2_1
  refine zw_ite (fun h2 => ?_) (fun h2 => ?_)
  · refine zw_bd (zw_mono (zk_41 n hIm0 hc0 ⟨by omega, by omega⟩) (fun v4 m3 hqm3 => ?_))
    obtain ⟨hIm3, hfm3, hvm3⟩ := hqm3
    have hFm3 := zfr_tr hFm0 hfm3 rfl
    refine zw_bd (zw_mono (zk_41 n hIm3 hc0 ⟨by omega, by omega⟩) (fun v6 m5 hqm5 => ?_))
    obtain ⟨hIm5, hfm5, hvm5⟩ := hqm5
    have hFm5 := zfr_tr hFm3 hfm5 rfl
    refine zw_bd (zw_mono (zk_41 n hIm5 hc0 ⟨by omega, by omega⟩) (fun v8 m7 hqm7 => ?_))
    obtain ⟨hIm7, hfm7, hvm7⟩ := hqm7
    have hFm7 := zfr_tr hFm5 hfm7 rfl
    refine zw_bd (zw_mono (zk_41 n hIm7 hc0 ⟨by omega, by omega⟩) (fun v10 m9 hqm9 => ?_))
    obtain ⟨hIm9, hfm9, hvm9⟩ := hqm9
    have hFm9 := zfr_tr hFm7 hfm9 rfl
    refine zw_bd (zw_mono (zk_41 n hIm9 hc0 ⟨by omega, by omega⟩) (fun v12 m11 hqm11 => ?_))
    obtain ⟨hIm11, hfm11, hvm11⟩ := hqm11
    have hFm11 := zfr_tr hFm9 hfm11 rfl
    have r13 : 0 ≤ (m11 a0 1) ∧ (m11 a0 1) ≤ 700 := zi_rd hIm11 hc0 zb_2_1
    exact zw_some ⟨hIm11, hFm11, ⟨by omega, by omega⟩⟩
  · exact zw_some ⟨hIm0, hFm0, ⟨by omega, by omega⟩⟩
set_option maxHeartbeats 4000000 in
theorem zk_44 (n : Nat) {a0 a1 : Int} {m0 : zu_m} (hIm0 : zi_I m0) (hc0 : zcls a0 = 2) (ha1 : (-2147483648) ≤ a1 ∧ a1 ≤ 2147483647)     : zw (zu_call (zt_T n) 44 [(5, a0), (0, a1)] m0) (fun v m => zi_I m ∧ zfr [] m0 m ∧ ((-1) ≤ v ∧ v ≤ 3)) := by
  have hFm0 : zfr [] m0 m0 := zfr_rf _ _
  refine zw_eq (zr_44_0 n a0 a1 m0) ?_
  refine zw_bd (zw_mono (zk_212_16 n hIm0 zq_89 ⟨by omega, by omega⟩) (fun v2 m1 hqm1 => ?_))
  obtain ⟨hIm1, hfm1, hvm1⟩ := hqm1
  have hFm1 := zfr_tr hFm0 hfm1 rfl
  exact zw_some ⟨hIm1, hFm1, ⟨by omega, by omega⟩⟩
set_option maxHeartbeats 4000000 in
theorem zk_46 (n : Nat) {a0 a1 a2 : Int} {m0 : zu_m} (hIm0 : zi_I m0) (hc0 : zcls a0 = 2) (ha1 : (-2147483648) ≤ a1 ∧ a1 ≤ 2147483647) (ha2 : (-2147483648) ≤ a2 ∧ a2 ≤ 2147483647)     : zw (zu_call (zt_T n) 46 [(5, a0), (0, a1), (0, a2)] m0) (fun v m => zi_I m ∧ zfr [] m0 m ∧ ((-4) ≤ v ∧ v ≤ 47)) := by
  have hFm0 : zfr [] m0 m0 := zfr_rf _ _
  refine zw_eq (zr_46_0 n a0 a1 a2 m0) ?_
  refine zw_bd (zw_eq (zr_210_0 n 89 a1 m0) ?_)
  refine zw_ite (fun h1 => ?_) (fun h1 => ?_)
  · refine zw_b (by omega) ?_
    refine zw_some ?_
    refine zw_ite (fun h2 => ?_) (fun h2 => ?_)
    · exfalso; omega
    · exact zw_some ⟨hIm0, hFm0, ⟨by omega, by omega⟩⟩
  · have r3 : 0 ≤ (m0 89 2) ∧ (m0 89 2) ≤ 16 := zi_rd hIm0 zq_89 zb_16_2
    refine zw_ite (fun h4 => ?_) (fun h4 => ?_)
    · refine zw_b (by omega) ?_
      refine zw_some ?_
      refine zw_ite (fun h5 => ?_) (fun h5 => ?_)
      · exfalso; omega
      · exact zw_some ⟨hIm0, hFm0, ⟨by omega, by omega⟩⟩
    · refine zw_b (by omega) ?_
      refine zw_some ?_
      refine zw_ite (fun h6 => ?_) (fun h6 => ?_)
      · have b7 : 0 ≤ a1 ∧ a1 < 16 := by omega
        refine zw_if b7 ?_
        refine zw_ite (fun h8 => ?_) (fun h8 => ?_)
        · have r9 : 0 ≤ (m0 ((89 + 1) + 5 + a1) 0) ∧ (m0 ((89 + 1) + 5 + a1) 0) ≤ 47 := zi_rd hIm0 (zc_65_e (zc_16_1 zq_89) b7) zb_17_0
          exact zw_some ⟨hIm0, hFm0, ⟨by omega, by omega⟩⟩
        · refine zw_ite (fun h10 => ?_) (fun h10 => ?_)
          · have r11 : 0 ≤ (m0 ((89 + 1) + 5 + a1) 1) ∧ (m0 ((89 + 1) + 5 + a1) 1) ≤ 3 := zi_rd hIm0 (zc_65_e (zc_16_1 zq_89) b7) zb_17_1
            exact zw_some ⟨hIm0, hFm0, ⟨by omega, by omega⟩⟩
          · refine zw_ite (fun h12 => ?_) (fun h12 => ?_)
            · have r13 : 0 ≤ (m0 ((89 + 1) + 5 + a1) 2) ∧ (m0 ((89 + 1) + 5 + a1) 2) ≤ 9 := zi_rd hIm0 (zc_65_e (zc_16_1 zq_89) b7) zb_17_2
              exact zw_some ⟨hIm0, hFm0, ⟨by omega, by omega⟩⟩
            · refine zw_ite (fun h14 => ?_) (fun h14 => ?_)
              · have r15 : (-3) ≤ (m0 ((89 + 1) + 5 + a1) 3) ∧ (m0 ((89 + 1) + 5 + a1) 3) ≤ 3 := zi_rd hIm0 (zc_65_e (zc_16_1 zq_89) b7) zb_17_3
                exact zw_some ⟨hIm0, hFm0, ⟨by omega, by omega⟩⟩
              · exact zw_some ⟨hIm0, hFm0, ⟨by omega, by omega⟩⟩
      · exfalso; omega
set_option maxHeartbeats 4000000 in
theorem zk_58 (n : Nat) {a0 a1 : Int} {m0 : zu_m} (hIm0 : zi_I m0) (hc0 : zcls a0 = 2) (ha1 : (-2147483648) ≤ a1 ∧ a1 ≤ 2147483647)     : zw (zu_call (zt_T n) 58 [(5, a0), (0, a1)] m0) (fun v m => zi_I m ∧ zfr [] m0 m ∧ ((-1) ≤ v ∧ v ≤ 999000)) := by
  have hFm0 : zfr [] m0 m0 := zfr_rf _ _
  refine zw_eq (zr_58_0 n a0 a1 m0) ?_
  refine zw_bd (zw_eq (zr_244_0 n 50 a1 m0) ?_)
  refine zw_ite (fun h1 => ?_) (fun h1 => ?_)
  · refine zw_b (by omega) ?_
    refine zw_some ?_
    refine zw_ite (fun h2 => ?_) (fun h2 => ?_)
    · exact zw_some ⟨hIm0, hFm0, ⟨by omega, by omega⟩⟩
    · exfalso; omega
  · have r3 : 1 ≤ (m0 50 2) ∧ (m0 50 2) ≤ 48 := zi_rd hIm0 zq_50 zb_11_2
    refine zw_ite (fun h4 => ?_) (fun h4 => ?_)
    · refine zw_b (by omega) ?_
      refine zw_some ?_
      refine zw_ite (fun h5 => ?_) (fun h5 => ?_)
      · exact zw_some ⟨hIm0, hFm0, ⟨by omega, by omega⟩⟩
      · exfalso; omega
    · refine zw_b (by omega) ?_
      refine zw_some ?_
      refine zw_ite (fun h6 => ?_) (fun h6 => ?_)
      · exfalso; omega
      · have b7 : 0 ≤ a1 ∧ a1 < 48 := by omega
        refine zw_if b7 ?_
        have r8 : 0 ≤ (m0 (89 + 4) a1) ∧ (m0 (89 + 4) a1) ≤ 999000 := zi_rd hIm0 (zc_16_6 zq_89) (zb_68 _)
        exact zw_some ⟨hIm0, hFm0, ⟨by omega, by omega⟩⟩
set_option maxHeartbeats 4000000 in
theorem zk_72 (n : Nat) {a0 a1 a2 a3 a4 : Int} {m0 : zu_m} (hIm0 : zi_I m0) (hc0 : zcls a0 = 2) (ha1 : (-2147483648) ≤ a1 ∧ a1 ≤ 2147483647) (ha2 : (-2147483648) ≤ a2 ∧ a2 ≤ 2147483647) (ha3 : (-2147483648) ≤ a3 ∧ a3 ≤ 2147483647) (ha4 : 0 ≤ a4 ∧ a4 ≤ 1)     : zw (zu_call (zt_T n) 72 [(5, a0), (0, a1), (0, a2), (0, a3), (0, a4)] m0) (fun v m => zi_I m ∧ zfr [(22, 7), (75, 0), (76, 0), (77, 0), (78, 0), (79, 0)] m0 m ∧ ((-1) ≤ v ∧ v ≤ 23)) := by
  have hFm0 : zfr [(22, 7), (75, 0), (76, 0), (77, 0), (78, 0), (79, 0)] m0 m0 := zfr_rf _ _
  refine zw_eq (zr_72_0 n a0 a1 a2 a3 a4 m0) ?_
  refine zw_bd (zw_eq (zr_53_0 n a1 m0) ?_)
  refine zw_ite (fun h1 => ?_) (fun h1 => ?_)
  · refine zw_b (by omega) ?_
    refine zw_some ?_
    refine zw_ite (fun h2 => ?_) (fun h2 => ?_)
    · exact zw_some ⟨hIm0, hFm0, ⟨by omega, by omega⟩⟩
    · exfalso; omega
  · refine zw_ite (fun h3 => ?_) (fun h3 => ?_)
    · refine zw_b (by omega) ?_
      refine zw_some ?_
      refine zw_ite (fun h4 => ?_) (fun h4 => ?_)
      · exact zw_some ⟨hIm0, hFm0, ⟨by omega, by omega⟩⟩
      · exfalso; omega
    · refine zw_b (by omega) ?_
      refine zw_some ?_
      refine zw_ite (fun h5 => ?_) (fun h5 => ?_)
      · exfalso; omega
      · refine zw_bd (zw_eq (zr_211_0 n 89 a2 m0) ?_)
        refine zw_ite (fun h6 => ?_) (fun h6 => ?_)
        · refine zw_b (by omega) ?_
          refine zw_some ?_
          refine zw_ite (fun h7 => ?_) (fun h7 => ?_)
          · exact zw_some ⟨hIm0, hFm0, ⟨by omega, by omega⟩⟩
          · exfalso; omega
        · have r8 : 0 ≤ (m0 89 4) ∧ (m0 89 4) ≤ 4 := zi_rd hIm0 zq_89 zb_16_4
          refine zw_ite (fun h9 => ?_) (fun h9 => ?_)
          · refine zw_b (by omega) ?_
            refine zw_some ?_
            refine zw_ite (fun h10 => ?_) (fun h10 => ?_)
            · exact zw_some ⟨hIm0, hFm0, ⟨by omega, by omega⟩⟩
            · exfalso; omega
          · refine zw_b (by omega) ?_
            refine zw_some ?_
            refine zw_ite (fun h11 => ?_) (fun h11 => ?_)
            · exfalso; omega
            · refine zw_ite (fun h12 => ?_) (fun h12 => ?_)
              · exact zw_some ⟨hIm0, hFm0, ⟨by omega, by omega⟩⟩
              · refine zw_ite (fun h13 => ?_) (fun h13 => ?_)
                · refine zw_bd (zw_mono (zk_272 n hIm0 zq_141 ⟨by omega, by omega⟩ ⟨by omega, by omega⟩ ⟨by omega, by omega⟩ ⟨by omega, by omega⟩) (fun v15 m14 hqm14 => ?_))
                  obtain ⟨hIm14, hfm14, hvm14⟩ := hqm14
                  have hFm14 := zfr_tr hFm0 hfm14 rfl
                  exact zw_some ⟨hIm14, hFm14, ⟨by omega, by omega⟩⟩
                · exact zw_some ⟨hIm0, hFm0, ⟨by omega, by omega⟩⟩
set_option maxHeartbeats 4000000 in
theorem zk_73 (n : Nat) {a0 a1 : Int} {m0 : zu_m} (hIm0 : zi_I m0) (hc0 : zcls a0 = 2) (ha1 : (-2147483648) ≤ a1 ∧ a1 ≤ 2147483647)     : zw (zu_call (zt_T n) 73 [(5, a0), (0, a1)] m0) (fun v m => zi_I m ∧ zfr [(22, 7), (79, 0)] m0 m ∧ ((-1) ≤ v ∧ v ≤ 23)) := by
  have hFm0 : zfr [(22, 7), (79, 0)] m0 m0 := zfr_rf _ _
  refine zw_eq (zr_73_0 n a0 a1 m0) ?_
  refine zw_bd (zw_mono (zk_273 n hIm0 zq_141 ⟨by omega, by omega⟩) (fun v2 m1 hqm1 => ?_))
  obtain ⟨hIm1, hfm1, hvm1⟩ := hqm1
  have hFm1 := zfr_tr hFm0 hfm1 rfl
  exact zw_some ⟨hIm1, hFm1, ⟨by omega, by omega⟩⟩

set_option maxHeartbeats 4000000 in
theorem zl_89 (n : Nat) {a0 : Int} {m0 : zu_m} (hc0 : zcls a0 = 28)  : ∀ k : Nat, (∀ (mh : zu_m), zi_I mh → zfr [(28, 8), (28, 9), (28, 10), (28, 11)] m0 mh → (zR_NS mh) → (700 - (mh a0 7)) * 1 + 1402 < (k : Int) → zw (zu_ex (zt_T n) 89 0 [(40, a0)] [] mh) (fun v m => zi_I m ∧ zfr [(28, 8), (28, 9), (28, 10), (28, 11)] m0 m ∧ zR_NS m ∧ True)) ∧ (∀ (mh : zu_m), zi_I mh → zfr [(28, 8), (28, 9), (28, 10), (28, 11)] m0 mh → (0 ≤ mh a0 10 ∧ mh a0 10 ≤ 699) → (1 ≤ mh a0 6 ∧ mh a0 6 ≤ 700) → (zR_NS mh) → (700 - (mh a0 7)) * 1 + 701 < (k : Int) → zw (zu_ex (zt_T n) 89 90 [(40, a0)] [] mh) (fun v m => zi_I m ∧ zfr [(28, 8), (28, 9), (28, 10), (28, 11)] m0 m ∧ zR_NS m ∧ True)) ∧ (∀ (mh : zu_m), zi_I mh → zfr [(28, 8), (28, 9), (28, 10), (28, 11)] m0 mh → (0 ≤ mh a0 10 ∧ mh a0 10 ≤ 699) → (1 ≤ mh a0 6 ∧ mh a0 6 ≤ 700) → (3 ≤ mh a0 8 ∧ mh a0 8 ≤ 3) → (0 ≤ mh a0 9 ∧ mh a0 9 ≤ 999999) → (zR_NS mh) → (700 - (mh a0 7)) * 1 + 0 < (k : Int) → zw (zu_ex (zt_T n) 89 213 [(40, a0)] [] mh) (fun v m => zi_I m ∧ zfr [(28, 8), (28, 9), (28, 10), (28, 11)] m0 m ∧ zR_NS m ∧ True)) := by
  intro k
  induction k with
  | zero => exact ⟨fun mh hImh hFmh hRNSmh hM => by exfalso; omega, fun mh hImh hFmh hg0 hg1 hRNSmh hM => by exfalso; omega, fun mh hImh hFmh hg0 hg1 hg2 hg3 hRNSmh hM => by exfalso; omega⟩
  | succ k ih =>
    refine ⟨?_, ?_, ?_⟩
    · intro mh hImh hFmh hRNSmh hM
      refine zw_eq (zr_89_0 n a0 mh) ?_
      have r1 : 0 ≤ (mh a0 7) ∧ (mh a0 7) ≤ 700 := zi_rd hImh hc0 zb_28_7
      have s2 := hRNSmh a0 hc0
      have r3 : 0 ≤ (mh a0 6) ∧ (mh a0 6) ≤ 700 := zi_rd hImh hc0 zb_28_6
      refine zw_ite (fun h4 => ?_) (fun h4 => ?_)
      · generalize hmm5 : zu_up mh a0 10 (mh a0 7) = m5
        have hIm5 := zi_up hmm5 hImh hc0 zb_28_10 (by omega) (by omega)
        have hFm5 := zfr_up hmm5 hFmh hc0 rfl
        have hRNSm5 := zR_NS_fr (zdis_fr (zfr_up hmm5 (zfr_rf [(28, 11)] _) hc0 rfl) rfl) hRNSmh
        have r6 : 0 ≤ (m5 a0 7) ∧ (m5 a0 7) ≤ 700 := zi_rd hIm5 hc0 zb_28_7
        have e7 : (m5 a0 7) = (mh a0 7) := (zs_ne hmm5 (Or.inr (by decide)))
        have r8 : 0 ≤ (m5 a0 6) ∧ (m5 a0 6) ≤ 700 := zi_rd hIm5 hc0 zb_28_6
        have e9 : (m5 a0 6) = (mh a0 6) := (zs_ne hmm5 (Or.inr (by decide)))
        refine zw_ite (fun h10 => ?_) (fun h10 => ?_)
        · exfalso; omega
        · generalize hmm11 : zu_up m5 a0 8 0 = m11
          have hIm11 := zi_up hmm11 hIm5 hc0 zb_28_8 (by omega) (by omega)
          have hFm11 := zfr_up hmm11 hFm5 hc0 rfl
          have hRNSm11 := zR_NS_fr (zdis_fr (zfr_up hmm11 (zfr_rf [(28, 9)] _) hc0 rfl) rfl) hRNSm5
          exact zw_some ⟨hIm11, hFm11, hRNSm11, trivial⟩
      · have b12 : 0 ≤ (mh a0 7) ∧ (mh a0 7) < 700 := by omega
        refine zw_if b12 ?_
        have r13 : (-2147483648) ≤ (mh 191 (mh a0 7)) ∧ (mh 191 (mh a0 7)) ≤ 2147483647 := zi_rd hImh zq_191 (zb_100 _)
        refine zw_ite (fun h14 => ?_) (fun h14 => ?_)
        · have w15 := zu_w32_id (z := (mh a0 7) + 1) (by omega) (by omega)
          generalize hmm16 : zu_up mh a0 7 (zu_w32 ((mh a0 7) + 1)) = m16
          have hIm16 := zi_up hmm16 hImh hc0 zb_28_7 (by omega) (by omega)
          have hFm16 := zfr_up hmm16 hFmh hc0 rfl
          have r17 : 0 ≤ (m16 a0 7) ∧ (m16 a0 7) ≤ 700 := zi_rd hIm16 hc0 zb_28_7
          have e18 : (m16 a0 7) = (zu_w32 ((mh a0 7) + 1)) := (zs_eq hmm16)
          have r19 : 0 ≤ (m16 a0 6) ∧ (m16 a0 6) ≤ 700 := zi_rd hIm16 hc0 zb_28_6
          have e20 : (m16 a0 6) = (mh a0 6) := (zs_ne hmm16 (Or.inr (by decide)))
          have hRNSm16 := zR_NS_of hc0 (show m16 a0 7 ≤ m16 a0 6 by omega)
          have hM : (700 - (m16 a0 7)) * 1 + 1402 < (k : Int) := by omega
          exact ih.1  m16 hIm16 hFm16 hRNSm16 hM
        · have b21 : 0 ≤ (mh a0 7) ∧ (mh a0 7) < 700 := by omega
          refine zw_if b21 ?_
          refine zw_ite (fun h22 => ?_) (fun h22 => ?_)
          · generalize hmm23 : zu_up mh a0 10 (mh a0 7) = m23
            have hIm23 := zi_up hmm23 hImh hc0 zb_28_10 (by omega) (by omega)
            have hFm23 := zfr_up hmm23 hFmh hc0 rfl
            have hRNSm23 := zR_NS_fr (zdis_fr (zfr_up hmm23 (zfr_rf [(28, 11)] _) hc0 rfl) rfl) hRNSmh
            have r24 : 0 ≤ (m23 a0 7) ∧ (m23 a0 7) ≤ 700 := zi_rd hIm23 hc0 zb_28_7
            have e25 : (m23 a0 7) = (mh a0 7) := (zs_ne hmm23 (Or.inr (by decide)))
            have r26 : 0 ≤ (m23 a0 6) ∧ (m23 a0 6) ≤ 700 := zi_rd hIm23 hc0 zb_28_6
            have e27 : (m23 a0 6) = (mh a0 6) := (zs_ne hmm23 (Or.inr (by decide)))
            refine zw_ite (fun h28 => ?_) (fun h28 => ?_)
            · refine zw_bd (zw_eq (zr_87_0 n a0 (m23 a0 7) m23) ?_)
              refine zw_ite (fun h29 => ?_) (fun h29 => ?_)
              · refine zw_b (by omega) ?_
                refine zw_some ?_
                refine zw_ite (fun h30 => ?_) (fun h30 => ?_)
                · refine zw_bd (zw_eq (zr_88_0 n a0 (m23 a0 7) m23) ?_)
                  refine zw_ite (fun h31 => ?_) (fun h31 => ?_)
                  · refine zw_b (by omega) ?_
                    refine zw_some ?_
                    refine zw_ite (fun h32 => ?_) (fun h32 => ?_)
                    · refine zw_bd (zw_mono (zk_90 n hIm23 hc0 ⟨by omega, by omega⟩ (by omega) hRNSm23) (fun v34 m33 hqm33 => ?_))
                      obtain ⟨hIm33, hfm33, hvm33⟩ := hqm33
                      have hFm33 := zfr_tr hFm23 hfm33 rfl
                      obtain ⟨hRNSm33, hvm33⟩ := hvm33
                      have s35 := hRNSm33 a0 hc0
                      exact zw_some ⟨hIm33, hFm33, hRNSm33, trivial⟩
                    · exfalso; omega
                  · exfalso; omega
                · exfalso; omega
              · have b36 : 0 ≤ (m23 a0 7) ∧ (m23 a0 7) < 700 := by omega
                refine zw_if b36 ?_
                have r37 : (-2147483648) ≤ (m23 191 (m23 a0 7)) ∧ (m23 191 (m23 a0 7)) ≤ 2147483647 := zi_rd hIm23 zq_191 (zb_100 _)
                refine zw_ite (fun h38 => ?_) (fun h38 => ?_)
                · refine zw_b (by omega) ?_
                  refine zw_some ?_
                  refine zw_ite (fun h39 => ?_) (fun h39 => ?_)
                  · refine zw_bd (zw_eq (zr_88_0 n a0 (m23 a0 7) m23) ?_)
                    refine zw_ite (fun h40 => ?_) (fun h40 => ?_)
                    · refine zw_b (by omega) ?_
                      refine zw_some ?_
                      refine zw_ite (fun h41 => ?_) (fun h41 => ?_)
                      · refine zw_bd (zw_mono (zk_90 n hIm23 hc0 ⟨by omega, by omega⟩ (by omega) hRNSm23) (fun v43 m42 hqm42 => ?_))
                        obtain ⟨hIm42, hfm42, hvm42⟩ := hqm42
                        have hFm42 := zfr_tr hFm23 hfm42 rfl
                        obtain ⟨hRNSm42, hvm42⟩ := hvm42
                        have s44 := hRNSm42 a0 hc0
                        exact zw_some ⟨hIm42, hFm42, hRNSm42, trivial⟩
                      · exfalso; omega
                    · have b45 : 0 ≤ (m23 a0 7) ∧ (m23 a0 7) < 700 := by omega
                      refine zw_if b45 ?_
                      refine zw_ite (fun h46 => ?_) (fun h46 => ?_)
                      · refine zw_b (by omega) ?_
                        refine zw_some ?_
                        refine zw_ite (fun h47 => ?_) (fun h47 => ?_)
                        · refine zw_bd (zw_mono (zk_90 n hIm23 hc0 ⟨by omega, by omega⟩ (by omega) hRNSm23) (fun v49 m48 hqm48 => ?_))
                          obtain ⟨hIm48, hfm48, hvm48⟩ := hqm48
                          have hFm48 := zfr_tr hFm23 hfm48 rfl
                          obtain ⟨hRNSm48, hvm48⟩ := hvm48
                          have s50 := hRNSm48 a0 hc0
                          exact zw_some ⟨hIm48, hFm48, hRNSm48, trivial⟩
                        · exfalso; omega
                      · have b51 : 0 ≤ (m23 a0 7) ∧ (m23 a0 7) < 700 := by omega
                        refine zw_if b51 ?_
                        refine zw_ite (fun h52 => ?_) (fun h52 => ?_)
                        · refine zw_b (by omega) ?_
                          refine zw_some ?_
                          refine zw_ite (fun h53 => ?_) (fun h53 => ?_)
                          · refine zw_bd (zw_mono (zk_90 n hIm23 hc0 ⟨by omega, by omega⟩ (by omega) hRNSm23) (fun v55 m54 hqm54 => ?_))
                            obtain ⟨hIm54, hfm54, hvm54⟩ := hqm54
                            have hFm54 := zfr_tr hFm23 hfm54 rfl
                            obtain ⟨hRNSm54, hvm54⟩ := hvm54
                            have s56 := hRNSm54 a0 hc0
                            exact zw_some ⟨hIm54, hFm54, hRNSm54, trivial⟩
                          · exfalso; omega
                        · refine zw_b (by omega) ?_
                          refine zw_some ?_
                          refine zw_ite (fun h57 => ?_) (fun h57 => ?_)
                          · exfalso; omega
                          · generalize hmm58 : zu_up m23 a0 8 3 = m58
                            have hIm58 := zi_up hmm58 hIm23 hc0 zb_28_8 (by omega) (by omega)
                            have hFm58 := zfr_up hmm58 hFm23 hc0 rfl
                            have hRNSm58 := zR_NS_fr (zdis_fr (zfr_up hmm58 (zfr_rf [(28, 9)] _) hc0 rfl) rfl) hRNSm23
                            generalize hmm59 : zu_up m58 a0 9 0 = m59
                            have hIm59 := zi_up hmm59 hIm58 hc0 zb_28_9 (by omega) (by omega)
                            have hFm59 := zfr_up hmm59 hFm58 hc0 rfl
                            have hRNSm59 := zR_NS_fr (zdis_fr (zfr_up hmm59 (zfr_rf [(28, 10)] _) hc0 rfl) rfl) hRNSm58
                            have r60 : 0 ≤ (m59 a0 6) ∧ (m59 a0 6) ≤ 700 := zi_rd hIm59 hc0 zb_28_6
                            have e61 : (m59 a0 6) = (m23 a0 6) := (Eq.trans (zs_ne hmm59 (Or.inr (by decide))) (zs_ne hmm58 (Or.inr (by decide))))
                            have r62 : 0 ≤ (m59 a0 10) ∧ (m59 a0 10) ≤ 700 := zi_rd hIm59 hc0 zb_28_10
                            have e63 : (m59 a0 10) = (mh a0 7) := (Eq.trans (zs_ne hmm59 (Or.inr (by decide))) (Eq.trans (zs_ne hmm58 (Or.inr (by decide))) (zs_eq hmm23)))
                            have r64 : 0 ≤ (m59 a0 8) ∧ (m59 a0 8) ≤ 6 := zi_rd hIm59 hc0 zb_28_8
                            have e65 : (m59 a0 8) = 3 := (Eq.trans (zs_ne hmm59 (Or.inr (by decide))) (zs_eq hmm58))
                            have r66 : (-2147483648) ≤ (m59 a0 9) ∧ (m59 a0 9) ≤ 2147483647 := zi_rd hIm59 hc0 zb_28_9
                            have e67 : (m59 a0 9) = 0 := (zs_eq hmm59)
                            have r68 : 0 ≤ (m59 a0 7) ∧ (m59 a0 7) ≤ 700 := zi_rd hIm59 hc0 zb_28_7
                            have e69 : (m59 a0 7) = (m23 a0 7) := (Eq.trans (zs_ne hmm59 (Or.inr (by decide))) (zs_ne hmm58 (Or.inr (by decide))))
                            have hM : (700 - (m59 a0 7)) * 1 + 0 < (k : Int) := by omega
                            exact ih.2.2  m59 hIm59 hFm59 ⟨by omega, by omega⟩ ⟨by omega, by omega⟩ ⟨by omega, by omega⟩ ⟨by omega, by omega⟩ hRNSm59 hM
                  · exfalso; omega
                · have b70 : 0 ≤ (m23 a0 7) ∧ (m23 a0 7) < 700 := by omega
                  refine zw_if b70 ?_
                  refine zw_ite (fun h71 => ?_) (fun h71 => ?_)
                  · refine zw_b (by omega) ?_
                    refine zw_some ?_
                    refine zw_ite (fun h72 => ?_) (fun h72 => ?_)
                    · refine zw_bd (zw_eq (zr_88_0 n a0 (m23 a0 7) m23) ?_)
                      refine zw_ite (fun h73 => ?_) (fun h73 => ?_)
                      · refine zw_b (by omega) ?_
                        refine zw_some ?_
                        refine zw_ite (fun h74 => ?_) (fun h74 => ?_)
                        · refine zw_bd (zw_mono (zk_90 n hIm23 hc0 ⟨by omega, by omega⟩ (by omega) hRNSm23) (fun v76 m75 hqm75 => ?_))
                          obtain ⟨hIm75, hfm75, hvm75⟩ := hqm75
                          have hFm75 := zfr_tr hFm23 hfm75 rfl
                          obtain ⟨hRNSm75, hvm75⟩ := hvm75
                          have s77 := hRNSm75 a0 hc0
                          exact zw_some ⟨hIm75, hFm75, hRNSm75, trivial⟩
                        · exfalso; omega
                      · have b78 : 0 ≤ (m23 a0 7) ∧ (m23 a0 7) < 700 := by omega
                        refine zw_if b78 ?_
                        refine zw_ite (fun h79 => ?_) (fun h79 => ?_)
                        · exfalso; omega
                        · have b80 : 0 ≤ (m23 a0 7) ∧ (m23 a0 7) < 700 := by omega
                          refine zw_if b80 ?_
                          refine zw_ite (fun h81 => ?_) (fun h81 => ?_)
                          · refine zw_b (by omega) ?_
                            refine zw_some ?_
                            refine zw_ite (fun h82 => ?_) (fun h82 => ?_)
                            · refine zw_bd (zw_mono (zk_90 n hIm23 hc0 ⟨by omega, by omega⟩ (by omega) hRNSm23) (fun v84 m83 hqm83 => ?_))
                              obtain ⟨hIm83, hfm83, hvm83⟩ := hqm83
                              have hFm83 := zfr_tr hFm23 hfm83 rfl
                              obtain ⟨hRNSm83, hvm83⟩ := hvm83
                              have s85 := hRNSm83 a0 hc0
                              exact zw_some ⟨hIm83, hFm83, hRNSm83, trivial⟩
                            · exfalso; omega
                          · exfalso; omega
                    · exfalso; omega
                  · refine zw_b (by omega) ?_
                    refine zw_some ?_
                    refine zw_ite (fun h86 => ?_) (fun h86 => ?_)
                    · exfalso; omega
                    · have r87 : 0 ≤ (m23 a0 10) ∧ (m23 a0 10) ≤ 700 := zi_rd hIm23 hc0 zb_28_10
                      have e88 : (m23 a0 10) = (mh a0 7) := (zs_eq hmm23)
                      have hM : (700 - (m23 a0 7)) * 1 + 701 < (k : Int) := by omega
                      exact ih.2.1  m23 hIm23 hFm23 ⟨by omega, by omega⟩ ⟨by omega, by omega⟩ hRNSm23 hM
            · generalize hmm89 : zu_up m23 a0 8 0 = m89
              have hIm89 := zi_up hmm89 hIm23 hc0 zb_28_8 (by omega) (by omega)
              have hFm89 := zfr_up hmm89 hFm23 hc0 rfl
              have hRNSm89 := zR_NS_fr (zdis_fr (zfr_up hmm89 (zfr_rf [(28, 9)] _) hc0 rfl) rfl) hRNSm23
              exact zw_some ⟨hIm89, hFm89, hRNSm89, trivial⟩
          · have w90 := zu_w32_id (z := (mh a0 7) + 1) (by omega) (by omega)
            generalize hmm91 : zu_up mh a0 7 (zu_w32 ((mh a0 7) + 1)) = m91
            have hIm91 := zi_up hmm91 hImh hc0 zb_28_7 (by omega) (by omega)
            have hFm91 := zfr_up hmm91 hFmh hc0 rfl
            have r92 : 0 ≤ (m91 a0 7) ∧ (m91 a0 7) ≤ 700 := zi_rd hIm91 hc0 zb_28_7
            have e93 : (m91 a0 7) = (zu_w32 ((mh a0 7) + 1)) := (zs_eq hmm91)
            have r94 : 0 ≤ (m91 a0 6) ∧ (m91 a0 6) ≤ 700 := zi_rd hIm91 hc0 zb_28_6
            have e95 : (m91 a0 6) = (mh a0 6) := (zs_ne hmm91 (Or.inr (by decide)))
            have hRNSm91 := zR_NS_of hc0 (show m91 a0 7 ≤ m91 a0 6 by omega)
            have hM : (700 - (m91 a0 7)) * 1 + 1402 < (k : Int) := by omega
            exact ih.1  m91 hIm91 hFm91 hRNSm91 hM
    · intro mh hImh hFmh hg0 hg1 hRNSmh hM
      refine zw_eq (zr_89_90 n a0 mh) ?_
      have r96 : 0 ≤ (mh a0 7) ∧ (mh a0 7) ≤ 700 := zi_rd hImh hc0 zb_28_7
      have s97 := hRNSmh a0 hc0
      refine zw_bd (zw_eq (zr_87_0 n a0 (mh a0 7) mh) ?_)
      refine zw_ite (fun h98 => ?_) (fun h98 => ?_)
      · refine zw_b (by omega) ?_
        refine zw_some ?_
        refine zw_ite (fun h99 => ?_) (fun h99 => ?_)
        · refine zw_bd (zw_mono (zk_86 n hImh hc0 ⟨by omega, by omega⟩ ⟨by omega, by omega⟩) (fun v101 m100 hqm100 => ?_))
          obtain ⟨hIm100, hfm100, hvm100⟩ := hqm100
          have hFm100 := zfr_tr hFmh hfm100 rfl
          have hRNSm100 := zR_NS_fr (zdis_fr hfm100 rfl) hRNSmh
          have s102 := hRNSm100 a0 hc0
          generalize hmm103 : zu_up m100 a0 9 v101 = m103
          have hIm103 := zi_up hmm103 hIm100 hc0 zb_28_9 (by omega) (by omega)
          have hFm103 := zfr_up hmm103 hFm100 hc0 rfl
          have hRNSm103 := zR_NS_fr (zdis_fr (zfr_up hmm103 (zfr_rf [(28, 10)] _) hc0 rfl) rfl) hRNSm100
          have r104 : (-2147483648) ≤ (m103 a0 9) ∧ (m103 a0 9) ≤ 2147483647 := zi_rd hIm103 hc0 zb_28_9
          have e105 : (m103 a0 9) = v101 := (zs_eq hmm103)
          refine zw_ite (fun h106 => ?_) (fun h106 => ?_)
          · have r107 : 0 ≤ (m103 a0 7) ∧ (m103 a0 7) ≤ 700 := zi_rd hIm103 hc0 zb_28_7
            have e108 : (m103 a0 7) = (mh a0 7) := (Eq.trans (zs_ne hmm103 (Or.inr (by decide))) (zfr_ap hfm100 hc0 rfl))
            have r109 : 0 ≤ (m103 a0 10) ∧ (m103 a0 10) ≤ 700 := zi_rd hIm103 hc0 zb_28_10
            have e110 : (m103 a0 10) = (mh a0 10) := (Eq.trans (zs_ne hmm103 (Or.inr (by decide))) (zfr_ap hfm100 hc0 rfl))
            have w111 := zu_w32_id (z := (m103 a0 7) - (m103 a0 10)) (by omega) (by omega)
            refine zw_ite (fun h112 => ?_) (fun h112 => ?_)
            · generalize hmm113 : zu_up m103 a0 8 2 = m113
              have hIm113 := zi_up hmm113 hIm103 hc0 zb_28_8 (by omega) (by omega)
              have hFm113 := zfr_up hmm113 hFm103 hc0 rfl
              have hRNSm113 := zR_NS_fr (zdis_fr (zfr_up hmm113 (zfr_rf [(28, 9)] _) hc0 rfl) rfl) hRNSm103
              have r114 : 0 ≤ (m113 a0 8) ∧ (m113 a0 8) ≤ 6 := zi_rd hIm113 hc0 zb_28_8
              have e115 : (m113 a0 8) = 2 := (zs_eq hmm113)
              refine zw_ite (fun h116 => ?_) (fun h116 => ?_)
              · exfalso; omega
              · have r117 : 0 ≤ (m113 a0 10) ∧ (m113 a0 10) ≤ 700 := zi_rd hIm113 hc0 zb_28_10
                have e118 : (m113 a0 10) = (m103 a0 10) := (zs_ne hmm113 (Or.inr (by decide)))
                have r119 : 0 ≤ (m113 a0 7) ∧ (m113 a0 7) ≤ 700 := zi_rd hIm113 hc0 zb_28_7
                have e120 : (m113 a0 7) = (m103 a0 7) := (zs_ne hmm113 (Or.inr (by decide)))
                refine zw_bd (zw_mono (zk_91 n hIm113 hc0 ⟨by omega, by omega⟩ ⟨by omega, by omega⟩) (fun v122 m121 hqm121 => ?_))
                obtain ⟨hIm121, hfm121, hvm121⟩ := hqm121
                have hFm121 := zfr_tr hFm113 hfm121 rfl
                have hRNSm121 := zR_NS_fr (zdis_fr hfm121 rfl) hRNSm113
                have s123 := hRNSm121 a0 hc0
                generalize hmm124 : zu_up m121 a0 9 v122 = m124
                have hIm124 := zi_up hmm124 hIm121 hc0 zb_28_9 (by omega) (by omega)
                have hFm124 := zfr_up hmm124 hFm121 hc0 rfl
                have hRNSm124 := zR_NS_fr (zdis_fr (zfr_up hmm124 (zfr_rf [(28, 10)] _) hc0 rfl) rfl) hRNSm121
                exact zw_some ⟨hIm124, hFm124, hRNSm124, trivial⟩
            · generalize hmm125 : zu_up m103 a0 8 6 = m125
              have hIm125 := zi_up hmm125 hIm103 hc0 zb_28_8 (by omega) (by omega)
              have hFm125 := zfr_up hmm125 hFm103 hc0 rfl
              have hRNSm125 := zR_NS_fr (zdis_fr (zfr_up hmm125 (zfr_rf [(28, 9)] _) hc0 rfl) rfl) hRNSm103
              have r126 : 0 ≤ (m125 a0 8) ∧ (m125 a0 8) ≤ 6 := zi_rd hIm125 hc0 zb_28_8
              have e127 : (m125 a0 8) = 6 := (zs_eq hmm125)
              refine zw_ite (fun h128 => ?_) (fun h128 => ?_)
              · exact zw_some ⟨hIm125, hFm125, hRNSm125, trivial⟩
              · exfalso; omega
          · generalize hmm129 : zu_up m103 a0 8 1 = m129
            have hIm129 := zi_up hmm129 hIm103 hc0 zb_28_8 (by omega) (by omega)
            have hFm129 := zfr_up hmm129 hFm103 hc0 rfl
            have hRNSm129 := zR_NS_fr (zdis_fr (zfr_up hmm129 (zfr_rf [(28, 9)] _) hc0 rfl) rfl) hRNSm103
            have r130 : 0 ≤ (m129 a0 8) ∧ (m129 a0 8) ≤ 6 := zi_rd hIm129 hc0 zb_28_8
            have e131 : (m129 a0 8) = 1 := (zs_eq hmm129)
            refine zw_ite (fun h132 => ?_) (fun h132 => ?_)
            · exact zw_some ⟨hIm129, hFm129, hRNSm129, trivial⟩
            · exfalso; omega
        · exfalso; omega
      · have b133 : 0 ≤ (mh a0 7) ∧ (mh a0 7) < 700 := by omega
        refine zw_if b133 ?_
        have r134 : (-2147483648) ≤ (mh 191 (mh a0 7)) ∧ (mh 191 (mh a0 7)) ≤ 2147483647 := zi_rd hImh zq_191 (zb_100 _)
        refine zw_ite (fun h135 => ?_) (fun h135 => ?_)
        · refine zw_b (by omega) ?_
          refine zw_some ?_
          refine zw_ite (fun h136 => ?_) (fun h136 => ?_)
          · refine zw_bd (zw_mono (zk_86 n hImh hc0 ⟨by omega, by omega⟩ ⟨by omega, by omega⟩) (fun v138 m137 hqm137 => ?_))
            obtain ⟨hIm137, hfm137, hvm137⟩ := hqm137
            have hFm137 := zfr_tr hFmh hfm137 rfl
            have hRNSm137 := zR_NS_fr (zdis_fr hfm137 rfl) hRNSmh
            have s139 := hRNSm137 a0 hc0
            generalize hmm140 : zu_up m137 a0 9 v138 = m140
            have hIm140 := zi_up hmm140 hIm137 hc0 zb_28_9 (by omega) (by omega)
            have hFm140 := zfr_up hmm140 hFm137 hc0 rfl
            have hRNSm140 := zR_NS_fr (zdis_fr (zfr_up hmm140 (zfr_rf [(28, 10)] _) hc0 rfl) rfl) hRNSm137
            have r141 : (-2147483648) ≤ (m140 a0 9) ∧ (m140 a0 9) ≤ 2147483647 := zi_rd hIm140 hc0 zb_28_9
            have e142 : (m140 a0 9) = v138 := (zs_eq hmm140)
            refine zw_ite (fun h143 => ?_) (fun h143 => ?_)
            · have r144 : 0 ≤ (m140 a0 7) ∧ (m140 a0 7) ≤ 700 := zi_rd hIm140 hc0 zb_28_7
              have e145 : (m140 a0 7) = (mh a0 7) := (Eq.trans (zs_ne hmm140 (Or.inr (by decide))) (zfr_ap hfm137 hc0 rfl))
              have r146 : 0 ≤ (m140 a0 10) ∧ (m140 a0 10) ≤ 700 := zi_rd hIm140 hc0 zb_28_10
              have e147 : (m140 a0 10) = (mh a0 10) := (Eq.trans (zs_ne hmm140 (Or.inr (by decide))) (zfr_ap hfm137 hc0 rfl))
              have w148 := zu_w32_id (z := (m140 a0 7) - (m140 a0 10)) (by omega) (by omega)
              refine zw_ite (fun h149 => ?_) (fun h149 => ?_)
              · generalize hmm150 : zu_up m140 a0 8 2 = m150
                have hIm150 := zi_up hmm150 hIm140 hc0 zb_28_8 (by omega) (by omega)
                have hFm150 := zfr_up hmm150 hFm140 hc0 rfl
                have hRNSm150 := zR_NS_fr (zdis_fr (zfr_up hmm150 (zfr_rf [(28, 9)] _) hc0 rfl) rfl) hRNSm140
                have r151 : 0 ≤ (m150 a0 8) ∧ (m150 a0 8) ≤ 6 := zi_rd hIm150 hc0 zb_28_8
                have e152 : (m150 a0 8) = 2 := (zs_eq hmm150)
                refine zw_ite (fun h153 => ?_) (fun h153 => ?_)
                · exfalso; omega
                · have r154 : 0 ≤ (m150 a0 10) ∧ (m150 a0 10) ≤ 700 := zi_rd hIm150 hc0 zb_28_10
                  have e155 : (m150 a0 10) = (m140 a0 10) := (zs_ne hmm150 (Or.inr (by decide)))
                  have r156 : 0 ≤ (m150 a0 7) ∧ (m150 a0 7) ≤ 700 := zi_rd hIm150 hc0 zb_28_7
                  have e157 : (m150 a0 7) = (m140 a0 7) := (zs_ne hmm150 (Or.inr (by decide)))
                  refine zw_bd (zw_mono (zk_91 n hIm150 hc0 ⟨by omega, by omega⟩ ⟨by omega, by omega⟩) (fun v159 m158 hqm158 => ?_))
                  obtain ⟨hIm158, hfm158, hvm158⟩ := hqm158
                  have hFm158 := zfr_tr hFm150 hfm158 rfl
                  have hRNSm158 := zR_NS_fr (zdis_fr hfm158 rfl) hRNSm150
                  have s160 := hRNSm158 a0 hc0
                  generalize hmm161 : zu_up m158 a0 9 v159 = m161
                  have hIm161 := zi_up hmm161 hIm158 hc0 zb_28_9 (by omega) (by omega)
                  have hFm161 := zfr_up hmm161 hFm158 hc0 rfl
                  have hRNSm161 := zR_NS_fr (zdis_fr (zfr_up hmm161 (zfr_rf [(28, 10)] _) hc0 rfl) rfl) hRNSm158
                  exact zw_some ⟨hIm161, hFm161, hRNSm161, trivial⟩
              · generalize hmm162 : zu_up m140 a0 8 6 = m162
                have hIm162 := zi_up hmm162 hIm140 hc0 zb_28_8 (by omega) (by omega)
                have hFm162 := zfr_up hmm162 hFm140 hc0 rfl
                have hRNSm162 := zR_NS_fr (zdis_fr (zfr_up hmm162 (zfr_rf [(28, 9)] _) hc0 rfl) rfl) hRNSm140
                have r163 : 0 ≤ (m162 a0 8) ∧ (m162 a0 8) ≤ 6 := zi_rd hIm162 hc0 zb_28_8
                have e164 : (m162 a0 8) = 6 := (zs_eq hmm162)
                refine zw_ite (fun h165 => ?_) (fun h165 => ?_)
                · exact zw_some ⟨hIm162, hFm162, hRNSm162, trivial⟩
                · exfalso; omega
            · generalize hmm166 : zu_up m140 a0 8 1 = m166
              have hIm166 := zi_up hmm166 hIm140 hc0 zb_28_8 (by omega) (by omega)
              have hFm166 := zfr_up hmm166 hFm140 hc0 rfl
              have hRNSm166 := zR_NS_fr (zdis_fr (zfr_up hmm166 (zfr_rf [(28, 9)] _) hc0 rfl) rfl) hRNSm140
              have r167 : 0 ≤ (m166 a0 8) ∧ (m166 a0 8) ≤ 6 := zi_rd hIm166 hc0 zb_28_8
              have e168 : (m166 a0 8) = 1 := (zs_eq hmm166)
              refine zw_ite (fun h169 => ?_) (fun h169 => ?_)
              · exact zw_some ⟨hIm166, hFm166, hRNSm166, trivial⟩
              · exfalso; omega
          · exfalso; omega
        · have b170 : 0 ≤ (mh a0 7) ∧ (mh a0 7) < 700 := by omega
          refine zw_if b170 ?_
          refine zw_ite (fun h171 => ?_) (fun h171 => ?_)
          · refine zw_b (by omega) ?_
            refine zw_some ?_
            refine zw_ite (fun h172 => ?_) (fun h172 => ?_)
            · refine zw_bd (zw_mono (zk_86 n hImh hc0 ⟨by omega, by omega⟩ ⟨by omega, by omega⟩) (fun v174 m173 hqm173 => ?_))
              obtain ⟨hIm173, hfm173, hvm173⟩ := hqm173
              have hFm173 := zfr_tr hFmh hfm173 rfl
              have hRNSm173 := zR_NS_fr (zdis_fr hfm173 rfl) hRNSmh
              have s175 := hRNSm173 a0 hc0
              generalize hmm176 : zu_up m173 a0 9 v174 = m176
              have hIm176 := zi_up hmm176 hIm173 hc0 zb_28_9 (by omega) (by omega)
              have hFm176 := zfr_up hmm176 hFm173 hc0 rfl
              have hRNSm176 := zR_NS_fr (zdis_fr (zfr_up hmm176 (zfr_rf [(28, 10)] _) hc0 rfl) rfl) hRNSm173
              have r177 : (-2147483648) ≤ (m176 a0 9) ∧ (m176 a0 9) ≤ 2147483647 := zi_rd hIm176 hc0 zb_28_9
              have e178 : (m176 a0 9) = v174 := (zs_eq hmm176)
              refine zw_ite (fun h179 => ?_) (fun h179 => ?_)
              · have r180 : 0 ≤ (m176 a0 7) ∧ (m176 a0 7) ≤ 700 := zi_rd hIm176 hc0 zb_28_7
                have e181 : (m176 a0 7) = (mh a0 7) := (Eq.trans (zs_ne hmm176 (Or.inr (by decide))) (zfr_ap hfm173 hc0 rfl))
                have r182 : 0 ≤ (m176 a0 10) ∧ (m176 a0 10) ≤ 700 := zi_rd hIm176 hc0 zb_28_10
                have e183 : (m176 a0 10) = (mh a0 10) := (Eq.trans (zs_ne hmm176 (Or.inr (by decide))) (zfr_ap hfm173 hc0 rfl))
                have w184 := zu_w32_id (z := (m176 a0 7) - (m176 a0 10)) (by omega) (by omega)
                refine zw_ite (fun h185 => ?_) (fun h185 => ?_)
                · generalize hmm186 : zu_up m176 a0 8 2 = m186
                  have hIm186 := zi_up hmm186 hIm176 hc0 zb_28_8 (by omega) (by omega)
                  have hFm186 := zfr_up hmm186 hFm176 hc0 rfl
                  have hRNSm186 := zR_NS_fr (zdis_fr (zfr_up hmm186 (zfr_rf [(28, 9)] _) hc0 rfl) rfl) hRNSm176
                  have r187 : 0 ≤ (m186 a0 8) ∧ (m186 a0 8) ≤ 6 := zi_rd hIm186 hc0 zb_28_8
                  have e188 : (m186 a0 8) = 2 := (zs_eq hmm186)
                  refine zw_ite (fun h189 => ?_) (fun h189 => ?_)
                  · exfalso; omega
                  · have r190 : 0 ≤ (m186 a0 10) ∧ (m186 a0 10) ≤ 700 := zi_rd hIm186 hc0 zb_28_10
                    have e191 : (m186 a0 10) = (m176 a0 10) := (zs_ne hmm186 (Or.inr (by decide)))
                    have r192 : 0 ≤ (m186 a0 7) ∧ (m186 a0 7) ≤ 700 := zi_rd hIm186 hc0 zb_28_7
                    have e193 : (m186 a0 7) = (m176 a0 7) := (zs_ne hmm186 (Or.inr (by decide)))
                    refine zw_bd (zw_mono (zk_91 n hIm186 hc0 ⟨by omega, by omega⟩ ⟨by omega, by omega⟩) (fun v195 m194 hqm194 => ?_))
                    obtain ⟨hIm194, hfm194, hvm194⟩ := hqm194
                    have hFm194 := zfr_tr hFm186 hfm194 rfl
                    have hRNSm194 := zR_NS_fr (zdis_fr hfm194 rfl) hRNSm186
                    have s196 := hRNSm194 a0 hc0
                    generalize hmm197 : zu_up m194 a0 9 v195 = m197
                    have hIm197 := zi_up hmm197 hIm194 hc0 zb_28_9 (by omega) (by omega)
                    have hFm197 := zfr_up hmm197 hFm194 hc0 rfl
                    have hRNSm197 := zR_NS_fr (zdis_fr (zfr_up hmm197 (zfr_rf [(28, 10)] _) hc0 rfl) rfl) hRNSm194
                    exact zw_some ⟨hIm197, hFm197, hRNSm197, trivial⟩
                · generalize hmm198 : zu_up m176 a0 8 6 = m198
                  have hIm198 := zi_up hmm198 hIm176 hc0 zb_28_8 (by omega) (by omega)
                  have hFm198 := zfr_up hmm198 hFm176 hc0 rfl
                  have hRNSm198 := zR_NS_fr (zdis_fr (zfr_up hmm198 (zfr_rf [(28, 9)] _) hc0 rfl) rfl) hRNSm176
                  have r199 : 0 ≤ (m198 a0 8) ∧ (m198 a0 8) ≤ 6 := zi_rd hIm198 hc0 zb_28_8
                  have e200 : (m198 a0 8) = 6 := (zs_eq hmm198)
                  refine zw_ite (fun h201 => ?_) (fun h201 => ?_)
                  · exact zw_some ⟨hIm198, hFm198, hRNSm198, trivial⟩
                  · exfalso; omega
              · generalize hmm202 : zu_up m176 a0 8 1 = m202
                have hIm202 := zi_up hmm202 hIm176 hc0 zb_28_8 (by omega) (by omega)
                have hFm202 := zfr_up hmm202 hFm176 hc0 rfl
                have hRNSm202 := zR_NS_fr (zdis_fr (zfr_up hmm202 (zfr_rf [(28, 9)] _) hc0 rfl) rfl) hRNSm176
                have r203 : 0 ≤ (m202 a0 8) ∧ (m202 a0 8) ≤ 6 := zi_rd hIm202 hc0 zb_28_8
                have e204 : (m202 a0 8) = 1 := (zs_eq hmm202)
                refine zw_ite (fun h205 => ?_) (fun h205 => ?_)
                · exact zw_some ⟨hIm202, hFm202, hRNSm202, trivial⟩
                · exfalso; omega
            · exfalso; omega
          · refine zw_b (by omega) ?_
            refine zw_some ?_
            refine zw_ite (fun h206 => ?_) (fun h206 => ?_)
            · exfalso; omega
            · have w207 := zu_w32_id (z := (mh a0 7) + 1) (by omega) (by omega)
              generalize hmm208 : zu_up mh a0 7 (zu_w32 ((mh a0 7) + 1)) = m208
              have hIm208 := zi_up hmm208 hImh hc0 zb_28_7 (by omega) (by omega)
              have hFm208 := zfr_up hmm208 hFmh hc0 rfl
              have r209 : 0 ≤ (m208 a0 7) ∧ (m208 a0 7) ≤ 700 := zi_rd hIm208 hc0 zb_28_7
              have e210 : (m208 a0 7) = (zu_w32 ((mh a0 7) + 1)) := (zs_eq hmm208)
              have r211 : 0 ≤ (m208 a0 6) ∧ (m208 a0 6) ≤ 700 := zi_rd hIm208 hc0 zb_28_6
              have e212 : (m208 a0 6) = (mh a0 6) := (zs_ne hmm208 (Or.inr (by decide)))
              have hRNSm208 := zR_NS_of hc0 (show m208 a0 7 ≤ m208 a0 6 by omega)
              have r213 : 0 ≤ (m208 a0 10) ∧ (m208 a0 10) ≤ 700 := zi_rd hIm208 hc0 zb_28_10
              have e214 : (m208 a0 10) = (mh a0 10) := (zs_ne hmm208 (Or.inr (by decide)))
              have hM : (700 - (m208 a0 7)) * 1 + 701 < (k : Int) := by omega
              exact ih.2.1  m208 hIm208 hFm208 ⟨by omega, by omega⟩ ⟨by omega, by omega⟩ hRNSm208 hM
    · intro mh hImh hFmh hg0 hg1 hg2 hg3 hRNSmh hM
      refine zw_eq (zr_89_213 n a0 mh) ?_
      have r215 : 0 ≤ (mh a0 7) ∧ (mh a0 7) ≤ 700 := zi_rd hImh hc0 zb_28_7
      have s216 := hRNSmh a0 hc0
      refine zw_bd (zw_eq (zr_88_0 n a0 (mh a0 7) mh) ?_)
      refine zw_ite (fun h217 => ?_) (fun h217 => ?_)
      · refine zw_b (by omega) ?_
        refine zw_some ?_
        refine zw_ite (fun h218 => ?_) (fun h218 => ?_)
        · exact zw_some ⟨hImh, hFmh, hRNSmh, trivial⟩
        · exfalso; omega
      · have b219 : 0 ≤ (mh a0 7) ∧ (mh a0 7) < 700 := by omega
        refine zw_if b219 ?_
        have r220 : (-2147483648) ≤ (mh 191 (mh a0 7)) ∧ (mh 191 (mh a0 7)) ≤ 2147483647 := zi_rd hImh zq_191 (zb_100 _)
        refine zw_ite (fun h221 => ?_) (fun h221 => ?_)
        · refine zw_b (by omega) ?_
          refine zw_some ?_
          refine zw_ite (fun h222 => ?_) (fun h222 => ?_)
          · exact zw_some ⟨hImh, hFmh, hRNSmh, trivial⟩
          · exfalso; omega
        · have b223 : 0 ≤ (mh a0 7) ∧ (mh a0 7) < 700 := by omega
          refine zw_if b223 ?_
          refine zw_ite (fun h224 => ?_) (fun h224 => ?_)
          · refine zw_b (by omega) ?_
            refine zw_some ?_
            refine zw_ite (fun h225 => ?_) (fun h225 => ?_)
            · exact zw_some ⟨hImh, hFmh, hRNSmh, trivial⟩
            · exfalso; omega
          · refine zw_b (by omega) ?_
            refine zw_some ?_
            refine zw_ite (fun h226 => ?_) (fun h226 => ?_)
            · exfalso; omega
            · refine zw_ite (fun h227 => ?_) (fun h227 => ?_)
              · have w228 := zu_w32_id (z := 10 * (mh a0 9)) (by omega) (by omega)
                have b229 : 0 ≤ (mh a0 7) ∧ (mh a0 7) < 700 := by omega
                refine zw_if b229 ?_
                have w230 := zu_w32_id (z := (zu_w32 (10 * (mh a0 9))) + (mh 191 (mh a0 7))) (by omega) (by omega)
                have w231 := zu_w32_id (z := (zu_w32 ((zu_w32 (10 * (mh a0 9))) + (mh 191 (mh a0 7)))) - 48) (by omega) (by omega)
                generalize hmm232 : zu_up mh a0 9 (zu_w32 ((zu_w32 ((zu_w32 (10 * (mh a0 9))) + (mh 191 (mh a0 7)))) - 48)) = m232
                have hIm232 := zi_up hmm232 hImh hc0 zb_28_9 (by omega) (by omega)
                have hFm232 := zfr_up hmm232 hFmh hc0 rfl
                have hRNSm232 := zR_NS_fr (zdis_fr (zfr_up hmm232 (zfr_rf [(28, 10)] _) hc0 rfl) rfl) hRNSmh
                have r233 : 0 ≤ (m232 a0 7) ∧ (m232 a0 7) ≤ 700 := zi_rd hIm232 hc0 zb_28_7
                have e234 : (m232 a0 7) = (mh a0 7) := (zs_ne hmm232 (Or.inr (by decide)))
                have w235 := zu_w32_id (z := (m232 a0 7) + 1) (by omega) (by omega)
                generalize hmm236 : zu_up m232 a0 7 (zu_w32 ((m232 a0 7) + 1)) = m236
                have hIm236 := zi_up hmm236 hIm232 hc0 zb_28_7 (by omega) (by omega)
                have hFm236 := zfr_up hmm236 hFm232 hc0 rfl
                have r237 : 0 ≤ (m236 a0 7) ∧ (m236 a0 7) ≤ 700 := zi_rd hIm236 hc0 zb_28_7
                have e238 : (m236 a0 7) = (zu_w32 ((m232 a0 7) + 1)) := (zs_eq hmm236)
                have r239 : 0 ≤ (m236 a0 6) ∧ (m236 a0 6) ≤ 700 := zi_rd hIm236 hc0 zb_28_6
                have e240 : (m236 a0 6) = (mh a0 6) := (Eq.trans (zs_ne hmm236 (Or.inr (by decide))) (zs_ne hmm232 (Or.inr (by decide))))
                have hRNSm236 := zR_NS_of hc0 (show m236 a0 7 ≤ m236 a0 6 by omega)
                have r241 : 0 ≤ (m236 a0 10) ∧ (m236 a0 10) ≤ 700 := zi_rd hIm236 hc0 zb_28_10
                have e242 : (m236 a0 10) = (mh a0 10) := (Eq.trans (zs_ne hmm236 (Or.inr (by decide))) (zs_ne hmm232 (Or.inr (by decide))))
                have r243 : 0 ≤ (m236 a0 8) ∧ (m236 a0 8) ≤ 6 := zi_rd hIm236 hc0 zb_28_8
                have e244 : (m236 a0 8) = (mh a0 8) := (Eq.trans (zs_ne hmm236 (Or.inr (by decide))) (zs_ne hmm232 (Or.inr (by decide))))
                have r245 : (-2147483648) ≤ (m236 a0 9) ∧ (m236 a0 9) ≤ 2147483647 := zi_rd hIm236 hc0 zb_28_9
                have e246 : (m236 a0 9) = (zu_w32 ((zu_w32 ((zu_w32 (10 * (mh a0 9))) + (mh 191 (mh a0 7)))) - 48)) := (Eq.trans (zs_ne hmm236 (Or.inr (by decide))) (zs_eq hmm232))
                have hM : (700 - (m236 a0 7)) * 1 + 0 < (k : Int) := by omega
                exact ih.2.2  m236 hIm236 hFm236 ⟨by omega, by omega⟩ ⟨by omega, by omega⟩ ⟨by omega, by omega⟩ ⟨by omega, by omega⟩ hRNSm236 hM
              · generalize hmm247 : zu_up mh a0 9 (mh a0 9) = m247
                have hIm247 := zi_up hmm247 hImh hc0 zb_28_9 (by omega) (by omega)
                have hFm247 := zfr_up hmm247 hFmh hc0 rfl
                have hRNSm247 := zR_NS_fr (zdis_fr (zfr_up hmm247 (zfr_rf [(28, 10)] _) hc0 rfl) rfl) hRNSmh
                have r248 : 0 ≤ (m247 a0 7) ∧ (m247 a0 7) ≤ 700 := zi_rd hIm247 hc0 zb_28_7
                have e249 : (m247 a0 7) = (mh a0 7) := (zs_ne hmm247 (Or.inr (by decide)))
                have w250 := zu_w32_id (z := (m247 a0 7) + 1) (by omega) (by omega)
                generalize hmm251 : zu_up m247 a0 7 (zu_w32 ((m247 a0 7) + 1)) = m251
                have hIm251 := zi_up hmm251 hIm247 hc0 zb_28_7 (by omega) (by omega)
                have hFm251 := zfr_up hmm251 hFm247 hc0 rfl
                have r252 : 0 ≤ (m251 a0 7) ∧ (m251 a0 7) ≤ 700 := zi_rd hIm251 hc0 zb_28_7
                have e253 : (m251 a0 7) = (zu_w32 ((m247 a0 7) + 1)) := (zs_eq hmm251)
                have r254 : 0 ≤ (m251 a0 6) ∧ (m251 a0 6) ≤ 700 := zi_rd hIm251 hc0 zb_28_6
                have e255 : (m251 a0 6) = (mh a0 6) := (Eq.trans (zs_ne hmm251 (Or.inr (by decide))) (zs_ne hmm247 (Or.inr (by decide))))
                have hRNSm251 := zR_NS_of hc0 (show m251 a0 7 ≤ m251 a0 6 by omega)
                have r256 : 0 ≤ (m251 a0 10) ∧ (m251 a0 10) ≤ 700 := zi_rd hIm251 hc0 zb_28_10
                have e257 : (m251 a0 10) = (mh a0 10) := (Eq.trans (zs_ne hmm251 (Or.inr (by decide))) (zs_ne hmm247 (Or.inr (by decide))))
                have r258 : 0 ≤ (m251 a0 8) ∧ (m251 a0 8) ≤ 6 := zi_rd hIm251 hc0 zb_28_8
                have e259 : (m251 a0 8) = (mh a0 8) := (Eq.trans (zs_ne hmm251 (Or.inr (by decide))) (zs_ne hmm247 (Or.inr (by decide))))
                have r260 : (-2147483648) ≤ (m251 a0 9) ∧ (m251 a0 9) ≤ 2147483647 := zi_rd hIm251 hc0 zb_28_9
                have e261 : (m251 a0 9) = (mh a0 9) := (Eq.trans (zs_ne hmm251 (Or.inr (by decide))) (zs_eq hmm247))
                have hM : (700 - (m251 a0 7)) * 1 + 0 < (k : Int) := by omega
                exact ih.2.2  m251 hIm251 hFm251 ⟨by omega, by omega⟩ ⟨by omega, by omega⟩ ⟨by omega, by omega⟩ ⟨by omega, by omega⟩ hRNSm251 hM
set_option maxHeartbeats 4000000 in
theorem zk_89 (n : Nat) {a0 : Int} {m0 : zu_m} (hIm0 : zi_I m0) (hc0 : zcls a0 = 28)     (hRNSm0 : zR_NS m0) : zw (zu_call (zt_T n) 89 [(40, a0)] m0) (fun v m => zi_I m ∧ zfr [(28, 8), (28, 9), (28, 10), (28, 11)] m0 m ∧ zR_NS m ∧ True) := by
  have hFm0 : zfr [(28, 8), (28, 9), (28, 10), (28, 11)] m0 m0 := zfr_rf _ _
  have s262 := hRNSm0 a0 hc0
  show zw (zu_ex (zt_T n) 89 0 [(40, a0)] [] m0) _
  have r263 : 0 ≤ (m0 a0 7) ∧ (m0 a0 7) ≤ 700 := zi_rd hIm0 hc0 zb_28_7
  have hM : (700 - (m0 a0 7)) * 1 + 1402 < ((2103 : Nat) : Int) := by omega
  exact (zl_89 n (m0 := m0) hc0 2103).1  m0 hIm0 hFm0 hRNSm0 hM
set_option maxHeartbeats 4000000 in
theorem zk_108 (n : Nat) {a0 a1 : Int} {m0 : zu_m} (hIm0 : zi_I m0) (hc0 : zcls a0 = 28) (ha1 : (-2147483648) ≤ a1 ∧ a1 ≤ 2147483647)     : zw (zu_call (zt_T n) 108 [(40, a0), (0, a1)] m0) (fun v m => zi_I m ∧ zfr [(28, 3)] m0 m ∧ ((-1) ≤ v ∧ v ≤ 3) ∧ (0 ≤ m a0 2 ∧ m a0 2 ≤ 0)) := by
  have hFm0 : zfr [(28, 3)] m0 m0 := zfr_rf _ _
  refine zw_eq (zr_108_0 n a0 a1 m0) ?_
  generalize hmm1 : zu_up m0 a0 2 0 = m1
  have hIm1 := zi_up hmm1 hIm0 hc0 zb_28_2 (by omega) (by omega)
  have hFm1 := zfr_up hmm1 hFm0 hc0 rfl
  have r2 : 0 ≤ (m1 a0 15) ∧ (m1 a0 15) ≤ 4 := zi_rd hIm1 hc0 zb_28_15
  refine zw_bd (zw_mono (zk_95 n hIm1 zq_200 ⟨by omega, by omega⟩ ⟨by omega, by omega⟩ ⟨by omega, by omega⟩) (fun v4 m3 hqm3 => ?_))
  obtain ⟨hIm3, hfm3, hvm3⟩ := hqm3
  have hFm3 := zfr_tr hFm1 hfm3 rfl
  have r5 : (-2147483648) ≤ (m3 a0 2) ∧ (m3 a0 2) ≤ 2147483647 := zi_rd hIm3 hc0 zb_28_2
  have e6 : (m3 a0 2) = 0 := (Eq.trans (zfr_ap hfm3 hc0 rfl) (zs_eq hmm1))
  exact zw_some ⟨hIm3, hFm3, ⟨by omega, by omega⟩, ⟨by omega, by omega⟩⟩
set_option maxHeartbeats 4000000 in
theorem zk_112 (n : Nat) {a0 a1 : Int} {m0 : zu_m} (hIm0 : zi_I m0) (hc0 : zcls a0 = 28) (ha1 : 0 ≤ a1 ∧ a1 ≤ 6)     : zw (zu_call (zt_T n) 112 [(40, a0), (0, a1)] m0) (fun v m => zi_I m ∧ zfr [(28, 22), (28, 46), (28, 47), (117, 0), (118, 0), (119, 0), (121, 0)] m0 m ∧ True) := by
  sorry
set_option maxHeartbeats 4000000 in
theorem zk_122 (n : Nat) {a0 a1 : Int} {m0 : zu_m} (hIm0 : zi_I m0) (hc0 : zcls a0 = 28) (ha1 : 0 ≤ a1 ∧ a1 ≤ 63)     : zw (zu_call (zt_T n) 122 [(40, a0), (0, a1)] m0) (fun v m => zi_I m ∧ zfr [(28, 54)] m0 m ∧ ((-9223372036854775808) ≤ v ∧ v ≤ 9223372036854775807)) := by
  sorry
set_option maxHeartbeats 4000000 in
theorem zl_126 (n : Nat) {a0 : Int} {m0 : zu_m} (hc0 : zcls a0 = 28)  : ∀ k : Nat, (∀ (x1 : Int) (mh : zu_m), zi_I mh → zfr [(28, 65), (28, 66), (28, 67), (28, 68), (28, 69), (28, 70), (124, 0), (125, 0), (126, 0), (127, 0), (129, 0), (130, 0)] m0 mh → (0 ≤ x1 ∧ x1 ≤ 18) → (18 - x1) * 1 + 5 < (k : Int) → zw (zu_ex (zt_T n) 126 2 [(40, a0), (0, x1)] [] mh) (fun v m => zi_I m ∧ zfr [(28, 65), (28, 66), (28, 67), (28, 68), (28, 69), (28, 70), (124, 0), (125, 0), (126, 0), (127, 0), (129, 0), (130, 0)] m0 m ∧ True ∧ (0 ≤ m 216 1 ∧ m 216 1 ≤ 16))) ∧ (∀ (x1 : Int) (mh : zu_m), zi_I mh → zfr [(28, 65), (28, 66), (28, 67), (28, 68), (28, 69), (28, 70), (124, 0), (125, 0), (126, 0), (127, 0), (129, 0), (130, 0)] m0 mh → (0 ≤ x1 ∧ x1 ≤ 4) → (0 ≤ mh 216 1 ∧ mh 216 1 ≤ 16) → (4 - x1) * 1 + 0 < (k : Int) → zw (zu_ex (zt_T n) 126 43 [(40, a0), (0, x1)] [] mh) (fun v m => zi_I m ∧ zfr [(28, 65), (28, 66), (28, 67), (28, 68), (28, 69), (28, 70), (124, 0), (125, 0), (126, 0), (127, 0), (129, 0), (130, 0)] m0 m ∧ True ∧ (0 ≤ m 216 1 ∧ m 216 1 ≤ 16))) := by
  intro k
  induction k with
  | zero => exact ⟨fun x1 mh hImh hFmh hbx1 hM => by exfalso; omega, fun x1 mh hImh hFmh hbx1 hg1 hM => by exfalso; omega⟩
  | succ k ih =>
    refine ⟨?_, ?_⟩
    · intro x1 mh hImh hFmh hbx1 hM
      refine zw_eq (zr_126_2 n a0 x1 mh) ?_
      refine zw_ite (fun h1 => ?_) (fun h1 => ?_)
      · have b2 : 0 ≤ (0 : Int) ∧ (0 : Int) < 2 := by omega
        refine zw_if b2 ?_
        have r3 : 0 ≤ (mh 216 0) ∧ (mh 216 0) ≤ 16 := zi_rdr (m := 2) (r0 := 0) (r1 := 0) hImh zq_216 (by omega) (by decide +kernel)
        have b4 : 0 ≤ (1 : Int) ∧ (1 : Int) < 2 := by omega
        refine zw_if b4 ?_
        generalize hmm5 : zu_up mh 216 1 (mh 216 0) = m5
        have hIm5 := zi_upr (m := 2) (r0 := 1) (r1 := 1) (lo := 0) (hi := 18) hmm5 hImh zq_216 (by omega) (by decide +kernel) (by omega) (by omega)
        have hFm5 := zfr_up hmm5 hFmh zq_216 rfl
        have r6 : 0 ≤ (m5 216 1) ∧ (m5 216 1) ≤ 18 := zi_rdr (m := 2) (r0 := 1) (r1 := 1) hIm5 zq_216 (by omega) (by decide +kernel)
        have e7 : (m5 216 1) = (mh 216 0) := (zs_eq hmm5)
        have hM : (4 - 0) * 1 + 0 < (k : Int) := by omega
        exact ih.2 0 m5 hIm5 hFm5 ⟨by omega, by omega⟩ ⟨by omega, by omega⟩ hM
      · have w8 := zu_w32_id (z := 18 + x1) (by omega) (by omega)
        have b9 : 0 ≤ x1 ∧ x1 < 36 := by omega
        refine zw_if b9 ?_
        have r10 : (-3) ≤ (mh 215 x1) ∧ (mh 215 x1) ≤ 3 := zi_rd hImh zq_215 (zb_124 _)
        have b11 : 0 ≤ (zu_w32 (18 + x1)) ∧ (zu_w32 (18 + x1)) < 36 := by omega
        refine zw_if b11 ?_
        generalize hmm12 : zu_up mh 215 (zu_w32 (18 + x1)) (mh 215 x1) = m12
        have hIm12 := zi_up hmm12 hImh zq_215 (zb_124 _) (by omega) (by omega)
        have hFm12 := zfr_up hmm12 hFmh zq_215 rfl
        have w13 := zu_w32_id (z := x1 + 1) (by omega) (by omega)
        have hM : (18 - (zu_w32 (x1 + 1))) * 1 + 5 < (k : Int) := by omega
        exact ih.1 (zu_w32 (x1 + 1)) m12 hIm12 hFm12 ⟨by omega, by omega⟩ hM
    · intro x1 mh hImh hFmh hbx1 hg1 hM
      refine zw_eq (zr_126_43 n a0 x1 mh) ?_
      refine zw_ite (fun h14 => ?_) (fun h14 => ?_)
      · have b15 : 0 ≤ (0 : Int) ∧ (0 : Int) < 2 := by omega
        refine zw_if b15 ?_
        have r16 : (-9223372036854775808) ≤ (mh 220 0) ∧ (mh 220 0) ≤ 9223372036854775807 := zi_rd hImh zq_220 (zb_129 _)
        have b17 : 0 ≤ (1 : Int) ∧ (1 : Int) < 2 := by omega
        refine zw_if b17 ?_
        generalize hmm18 : zu_up mh 220 1 (mh 220 0) = m18
        have hIm18 := zi_up hmm18 hImh zq_220 (zb_129 _) (by omega) (by omega)
        have hFm18 := zfr_up hmm18 hFmh zq_220 rfl
        have b19 : 0 ≤ (0 : Int) ∧ (0 : Int) < 2 := by omega
        refine zw_if b19 ?_
        have r20 : (-2147483648) ≤ (m18 221 0) ∧ (m18 221 0) ≤ 2147483647 := zi_rd hIm18 zq_221 (zb_130 _)
        have b21 : 0 ≤ (1 : Int) ∧ (1 : Int) < 2 := by omega
        refine zw_if b21 ?_
        generalize hmm22 : zu_up m18 221 1 (m18 221 0) = m22
        have hIm22 := zi_up hmm22 hIm18 zq_221 (zb_130 _) (by omega) (by omega)
        have hFm22 := zfr_up hmm22 hFm18 zq_221 rfl
        refine zw_bd (zw_mono (zk_35 n hIm22 hc0) (fun v24 m23 hqm23 => ?_))
        obtain ⟨hIm23, hfm23, hvm23⟩ := hqm23
        have hFm23 := zfr_tr hFm22 hfm23 rfl
        have r25 : 0 ≤ (m23 216 1) ∧ (m23 216 1) ≤ 18 := zi_rdr (m := 2) (r0 := 1) (r1 := 1) hIm23 zq_216 (by omega) (by decide +kernel)
        have e26 : (m23 216 1) = (mh 216 1) := (Eq.trans (zfr_ap hfm23 zq_216 rfl) (Eq.trans (zs_ne hmm22 (Or.inl (zc_ne zq_216 zq_221 (by decide)))) (zs_ne hmm18 (Or.inl (zc_ne zq_216 zq_220 (by decide))))))
        exact zw_some ⟨hIm23, hFm23, trivial, ⟨by omega, by omega⟩⟩
      · have w27 := zu_w32_id (z := 4 + x1) (by omega) (by omega)
        have b28 : 0 ≤ x1 ∧ x1 < 8 := by omega
        refine zw_if b28 ?_
        have r29 : 0 ≤ (mh 217 x1) ∧ (mh 217 x1) ≤ 47 := zi_rd hImh zq_217 (zb_126 _)
        have b30 : 0 ≤ (zu_w32 (4 + x1)) ∧ (zu_w32 (4 + x1)) < 8 := by omega
        refine zw_if b30 ?_
        generalize hmm31 : zu_up mh 217 (zu_w32 (4 + x1)) (mh 217 x1) = m31
        have hIm31 := zi_up hmm31 hImh zq_217 (zb_126 _) (by omega) (by omega)
        have hFm31 := zfr_up hmm31 hFmh zq_217 rfl
        have b32 : 0 ≤ x1 ∧ x1 < 8 := by omega
        refine zw_if b32 ?_
        have r33 : (-2147483648) ≤ (m31 218 x1) ∧ (m31 218 x1) ≤ 2147483647 := zi_rd hIm31 zq_218 (zb_127 _)
        have b34 : 0 ≤ (zu_w32 (4 + x1)) ∧ (zu_w32 (4 + x1)) < 8 := by omega
        refine zw_if b34 ?_
        generalize hmm35 : zu_up m31 218 (zu_w32 (4 + x1)) (m31 218 x1) = m35
        have hIm35 := zi_up hmm35 hIm31 zq_218 (zb_127 _) (by omega) (by omega)
        have hFm35 := zfr_up hmm35 hFm31 zq_218 rfl
        have w36 := zu_w32_id (z := x1 + 1) (by omega) (by omega)
        have r37 : 0 ≤ (m35 216 1) ∧ (m35 216 1) ≤ 18 := zi_rdr (m := 2) (r0 := 1) (r1 := 1) hIm35 zq_216 (by omega) (by decide +kernel)
        have e38 : (m35 216 1) = (mh 216 1) := (Eq.trans (zs_ne hmm35 (Or.inl (zc_ne zq_216 zq_218 (by decide)))) (zs_ne hmm31 (Or.inl (zc_ne zq_216 zq_217 (by decide)))))
        have hM : (4 - (zu_w32 (x1 + 1))) * 1 + 0 < (k : Int) := by omega
        exact ih.2 (zu_w32 (x1 + 1)) m35 hIm35 hFm35 ⟨by omega, by omega⟩ ⟨by omega, by omega⟩ hM
set_option maxHeartbeats 4000000 in
theorem zk_126 (n : Nat) {a0 : Int} {m0 : zu_m} (hIm0 : zi_I m0) (hc0 : zcls a0 = 28)      : zw (zu_call (zt_T n) 126 [(40, a0)] m0) (fun v m => zi_I m ∧ zfr [(28, 65), (28, 66), (28, 67), (28, 68), (28, 69), (28, 70), (124, 0), (125, 0), (126, 0), (127, 0), (129, 0), (130, 0)] m0 m ∧ True ∧ (0 ≤ m 216 1 ∧ m 216 1 ≤ 16)) := by
  have hFm0 : zfr [(28, 65), (28, 66), (28, 67), (28, 68), (28, 69), (28, 70), (124, 0), (125, 0), (126, 0), (127, 0), (129, 0), (130, 0)] m0 m0 := zfr_rf _ _
  refine zw_eq (zr_126_0 n a0 m0) ?_
  have hM : (18 - 0) * 1 + 5 < ((24 : Nat) : Int) := by omega
  exact (zl_126 n (m0 := m0) hc0 24).1 0 m0 hIm0 hFm0 ⟨by omega, by omega⟩ hM
set_option maxHeartbeats 4000000 in
theorem zk_134 (n : Nat) {a0 a1 a2 : Int} {m0 : zu_m} (hIm0 : zi_I m0) (hc0 : zcls a0 = 28) (ha1 : 0 ≤ a1 ∧ a1 ≤ 3) (ha2 : 0 ≤ a2 ∧ a2 ≤ 47)     : zw (zu_call (zt_T n) 134 [(40, a0), (0, a1), (0, a2)] m0) (fun v m => zi_I m ∧ zfr [] m0 m ∧ (0 ≤ v ∧ v ≤ 1)) := by
  have hFm0 : zfr [] m0 m0 := zfr_rf _ _
  refine zw_eq (zr_134_0 n a0 a1 a2 m0) ?_
  have r1 : (-2147483648) ≤ (m0 a0 64) ∧ (m0 a0 64) ≤ 2147483647 := zi_rd hIm0 hc0 zb_28_64
  refine zw_ite (fun h2 => ?_) (fun h2 => ?_)
  · refine zw_b (by omega) ?_
    exact zw_some ⟨hIm0, hFm0, ⟨by omega, by omega⟩⟩
  · refine zw_bd (zw_eq (zr_128_0 n a0 a1 m0) ?_)
    have r3 : 0 ≤ (m0 a0 68) ∧ (m0 a0 68) ≤ 1 := zi_rd hIm0 hc0 zb_28_68
    refine zw_ite (fun h4 => ?_) (fun h4 => ?_)
    · have b5 : 0 ≤ a1 ∧ a1 < 8 := by omega
      refine zw_if b5 ?_
      have r6 : 0 ≤ (m0 202 a1) ∧ (m0 202 a1) ≤ 15 := zi_rd hIm0 zq_202 (zb_111 _)
      refine zw_some ?_
      refine zw_ite (fun h7 => ?_) (fun h7 => ?_)
      · refine zw_b (by omega) ?_
        exact zw_some ⟨hIm0, hFm0, ⟨by omega, by omega⟩⟩
      · have r8 : 1 ≤ (m0 a0 12) ∧ (m0 a0 12) ≤ 8 := zi_rd hIm0 hc0 zb_28_12
        refine zw_nif (by omega) ?_
        have d9 := ztdiv_bd (x := a2) (y := (m0 a0 12)) (by omega) (by omega)
        have w10 := zu_w32_id (z := Int.tdiv a2 (m0 a0 12)) (by omega) (by omega)
        have b11 : 0 ≤ (1 : Int) ∧ (1 : Int) < 10 := by omega
        refine zw_if b11 ?_
        have r12 : (-1) ≤ (m0 194 1) ∧ (m0 194 1) ≤ 99999 := zi_rd hIm0 zq_194 (zb_103 _)
        refine zw_ite (fun h13 => ?_) (fun h13 => ?_)
        · refine zw_b (by omega) ?_
          exact zw_some ⟨hIm0, hFm0, ⟨by omega, by omega⟩⟩
        · refine zw_b (by omega) ?_
          exact zw_some ⟨hIm0, hFm0, ⟨by omega, by omega⟩⟩
    · refine zw_some ?_
      refine zw_ite (fun h14 => ?_) (fun h14 => ?_)
      · exfalso; omega
      · have r15 : 1 ≤ (m0 a0 12) ∧ (m0 a0 12) ≤ 8 := zi_rd hIm0 hc0 zb_28_12
        refine zw_nif (by omega) ?_
        have d16 := ztdiv_bd (x := a2) (y := (m0 a0 12)) (by omega) (by omega)
        have w17 := zu_w32_id (z := Int.tdiv a2 (m0 a0 12)) (by omega) (by omega)
        have b18 : 0 ≤ (1 : Int) ∧ (1 : Int) < 10 := by omega
        refine zw_if b18 ?_
        have r19 : (-1) ≤ (m0 194 1) ∧ (m0 194 1) ≤ 99999 := zi_rd hIm0 zq_194 (zb_103 _)
        refine zw_ite (fun h20 => ?_) (fun h20 => ?_)
        · refine zw_b (by omega) ?_
          exact zw_some ⟨hIm0, hFm0, ⟨by omega, by omega⟩⟩
        · refine zw_b (by omega) ?_
          exact zw_some ⟨hIm0, hFm0, ⟨by omega, by omega⟩⟩
set_option maxHeartbeats 4000000 in
theorem zl_141 (n : Nat) {a0 a1 : Int} {m0 : zu_m} (hc0 : zcls a0 = 28)  : ∀ k : Nat, (∀ (x2 x3 x4 : Int) (mh : zu_m), zi_I mh → zfr [] m0 mh → (0 ≤ a1 ∧ a1 ≤ 1) → (0 ≤ x2 ∧ x2 ≤ 2147483647) → ((-2147483648) ≤ x3 ∧ x3 ≤ 99) → (0 ≤ x4 ∧ x4 ≤ 4) → (4 - x4) * 1 + 0 < (k : Int) → zw (zu_ex (zt_T n) 141 8 [(40, a0), (0, a1), (0, x2), (0, x3), (0, x4), (2, 0)] [] mh) (fun v m => zi_I m ∧ zfr [] m0 m ∧ ((-2147483648) ≤ v ∧ v ≤ 2147483647))) := by
  intro k
  induction k with
  | zero => exact fun x2 x3 x4 mh hImh hFmh hba1 hbx2 hbx3 hbx4 hM => by exfalso; omega
  | succ k ih =>
    intro x2 x3 x4 mh hImh hFmh hba1 hbx2 hbx3 hbx4 hM
    refine zw_eq (zr_141_8 n a0 a1 x2 x3 x4 mh) ?_
    have r1 : 0 ≤ (mh a0 15) ∧ (mh a0 15) ≤ 4 := zi_rd hImh hc0 zb_28_15
    refine zw_ite (fun h2 => ?_) (fun h2 => ?_)
    · refine zw_ite (fun h3 => ?_) (fun h3 => ?_)
      · have w4 := zu_w32_rg (x2 - x3)
        exact zw_some ⟨hImh, hFmh, ⟨by omega, by omega⟩⟩
      · exact zw_some ⟨hImh, hFmh, ⟨by omega, by omega⟩⟩
    · refine zw_bd (zw_mono (zk_130 n hImh hc0 ⟨by omega, by omega⟩ ⟨by omega, by omega⟩) (fun v6 m5 hqm5 => ?_))
      obtain ⟨hIm5, hfm5, hvm5⟩ := hqm5
      have hFm5 := zfr_tr hFmh hfm5 rfl
      refine zw_ite (fun h7 => ?_) (fun h7 => ?_)
      · refine zw_ite (fun h8 => ?_) (fun h8 => ?_)
        · have w9 := zu_w32_id (z := x4 + 1) (by omega) (by omega)
          have hM : (4 - (zu_w32 (x4 + 1))) * 1 + 0 < (k : Int) := by omega
          exact zw_le (zu_forget (zu_lr_same (zu_lr_same (zu_lr_same (zu_lr_same (zu_lr_same (zu_lr_drop zu_lr_nil))))))) (ih x2 x3 (zu_w32 (x4 + 1)) m5 hIm5 hFm5 ⟨by omega, by omega⟩ ⟨by omega, by omega⟩ ⟨by omega, by omega⟩ ⟨by omega, by omega⟩ hM)
        · have w10 := zu_w32_id (z := x4 + 1) (by omega) (by omega)
          have hM : (4 - (zu_w32 (x4 + 1))) * 1 + 0 < (k : Int) := by omega
          exact zw_le (zu_forget (zu_lr_same (zu_lr_same (zu_lr_same (zu_lr_same (zu_lr_same (zu_lr_drop zu_lr_nil))))))) (ih x2 v6 (zu_w32 (x4 + 1)) m5 hIm5 hFm5 ⟨by omega, by omega⟩ ⟨by omega, by omega⟩ ⟨by omega, by omega⟩ ⟨by omega, by omega⟩ hM)
      · refine zw_ite (fun h11 => ?_) (fun h11 => ?_)
        · have w12 := zu_w32_id (z := x4 + 1) (by omega) (by omega)
          have hM : (4 - (zu_w32 (x4 + 1))) * 1 + 0 < (k : Int) := by omega
          exact zw_le (zu_forget (zu_lr_same (zu_lr_same (zu_lr_same (zu_lr_same (zu_lr_same (zu_lr_drop zu_lr_nil))))))) (ih v6 x3 (zu_w32 (x4 + 1)) m5 hIm5 hFm5 ⟨by omega, by omega⟩ ⟨by omega, by omega⟩ ⟨by omega, by omega⟩ ⟨by omega, by omega⟩ hM)
        · have w13 := zu_w32_id (z := x4 + 1) (by omega) (by omega)
          have hM : (4 - (zu_w32 (x4 + 1))) * 1 + 0 < (k : Int) := by omega
          exact zw_le (zu_forget (zu_lr_same (zu_lr_same (zu_lr_same (zu_lr_same (zu_lr_same (zu_lr_drop zu_lr_nil))))))) (ih v6 v6 (zu_w32 (x4 + 1)) m5 hIm5 hFm5 ⟨by omega, by omega⟩ ⟨by omega, by omega⟩ ⟨by omega, by omega⟩ ⟨by omega, by omega⟩ hM)
set_option maxHeartbeats 4000000 in
theorem zk_141 (n : Nat) {a0 a1 : Int} {m0 : zu_m} (hIm0 : zi_I m0) (hc0 : zcls a0 = 28) (ha1 : 0 ≤ a1 ∧ a1 ≤ 1)     : zw (zu_call (zt_T n) 141 [(40, a0), (0, a1)] m0) (fun v m => zi_I m ∧ zfr [] m0 m ∧ ((-2147483648) ≤ v ∧ v ≤ 2147483647)) := by
  have hFm0 : zfr [] m0 m0 := zfr_rf _ _
  refine zw_eq (zr_141_0 n a0 a1 m0) ?_
  have hM : (4 - 0) * 1 + 0 < ((5 : Nat) : Int) := by omega
  exact (zl_141 n (m0 := m0) hc0 5) 0 99 0 m0 hIm0 hFm0 ⟨by omega, by omega⟩ ⟨by omega, by omega⟩ ⟨by omega, by omega⟩ ⟨by omega, by omega⟩ hM
set_option maxHeartbeats 4000000 in
theorem zk_144 (n : Nat) {a0 a1 a2 : Int} {m0 : zu_m} (hIm0 : zi_I m0) (hc0 : zcls a0 = 28) (ha1 : (-2147483648) ≤ a1 ∧ a1 ≤ 2147483647) (ha2 : (-2147483648) ≤ a2 ∧ a2 ≤ 2147483647)     : zw (zu_call (zt_T n) 144 [(40, a0), (0, a1), (0, a2)] m0) (fun v m => zi_I m ∧ zfr [(28, 3)] m0 m ∧ ((-4) ≤ v ∧ v ≤ 47) ∧ (0 ≤ m a0 2 ∧ m a0 2 ≤ 0)) := by
  have hFm0 : zfr [(28, 3)] m0 m0 := zfr_rf _ _
  refine zw_eq (zr_144_0 n a0 a1 a2 m0) ?_
  generalize hmm1 : zu_up m0 a0 2 0 = m1
  have hIm1 := zi_up hmm1 hIm0 hc0 zb_28_2 (by omega) (by omega)
  have hFm1 := zfr_up hmm1 hFm0 hc0 rfl
  refine zw_bd (zw_eq (zr_124_0 n a0 a1 m1) ?_)
  refine zw_ite (fun h2 => ?_) (fun h2 => ?_)
  · refine zw_b (by omega) ?_
    refine zw_some ?_
    refine zw_ite (fun h3 => ?_) (fun h3 => ?_)
    · exfalso; omega
    · have r4 : (-2147483648) ≤ (m1 a0 2) ∧ (m1 a0 2) ≤ 2147483647 := zi_rd hIm1 hc0 zb_28_2
      have e5 : (m1 a0 2) = 0 := (zs_eq hmm1)
      exact zw_some ⟨hIm1, hFm1, ⟨by omega, by omega⟩, ⟨by omega, by omega⟩⟩
  · have b6 : 0 ≤ (0 : Int) ∧ (0 : Int) < 2 := by omega
    refine zw_if b6 ?_
    have r7 : 0 ≤ (m1 216 0) ∧ (m1 216 0) ≤ 16 := zi_rdr (m := 2) (r0 := 0) (r1 := 0) hIm1 zq_216 (by omega) (by decide +kernel)
    refine zw_ite (fun h8 => ?_) (fun h8 => ?_)
    · refine zw_b (by omega) ?_
      refine zw_some ?_
      refine zw_ite (fun h9 => ?_) (fun h9 => ?_)
      · exfalso; omega
      · have r10 : (-2147483648) ≤ (m1 a0 2) ∧ (m1 a0 2) ≤ 2147483647 := zi_rd hIm1 hc0 zb_28_2
        have e11 : (m1 a0 2) = 0 := (zs_eq hmm1)
        exact zw_some ⟨hIm1, hFm1, ⟨by omega, by omega⟩, ⟨by omega, by omega⟩⟩
    · refine zw_b (by omega) ?_
      refine zw_some ?_
      refine zw_ite (fun h12 => ?_) (fun h12 => ?_)
      · refine zw_ite (fun h13 => ?_) (fun h13 => ?_)
        · have b14 : 0 ≤ a1 ∧ a1 < 36 := by omega
          refine zw_if b14 ?_
          have r15 : 0 ≤ (m1 197 a1) ∧ (m1 197 a1) ≤ 47 := zi_rd hIm1 zq_197 (zb_106 _)
          have r16 : (-2147483648) ≤ (m1 a0 2) ∧ (m1 a0 2) ≤ 2147483647 := zi_rd hIm1 hc0 zb_28_2
          have e17 : (m1 a0 2) = 0 := (zs_eq hmm1)
          exact zw_some ⟨hIm1, hFm1, ⟨by omega, by omega⟩, ⟨by omega, by omega⟩⟩
        · refine zw_ite (fun h18 => ?_) (fun h18 => ?_)
          · have b19 : 0 ≤ a1 ∧ a1 < 36 := by omega
            refine zw_if b19 ?_
            have r20 : 0 ≤ (m1 198 a1) ∧ (m1 198 a1) ≤ 3 := zi_rd hIm1 zq_198 (zb_107 _)
            have r21 : (-2147483648) ≤ (m1 a0 2) ∧ (m1 a0 2) ≤ 2147483647 := zi_rd hIm1 hc0 zb_28_2
            have e22 : (m1 a0 2) = 0 := (zs_eq hmm1)
            exact zw_some ⟨hIm1, hFm1, ⟨by omega, by omega⟩, ⟨by omega, by omega⟩⟩
          · refine zw_ite (fun h23 => ?_) (fun h23 => ?_)
            · have b24 : 0 ≤ a1 ∧ a1 < 36 := by omega
              refine zw_if b24 ?_
              have r25 : 0 ≤ (m1 199 a1) ∧ (m1 199 a1) ≤ 9 := zi_rd hIm1 zq_199 (zb_108 _)
              have r26 : (-2147483648) ≤ (m1 a0 2) ∧ (m1 a0 2) ≤ 2147483647 := zi_rd hIm1 hc0 zb_28_2
              have e27 : (m1 a0 2) = 0 := (zs_eq hmm1)
              exact zw_some ⟨hIm1, hFm1, ⟨by omega, by omega⟩, ⟨by omega, by omega⟩⟩
            · refine zw_ite (fun h28 => ?_) (fun h28 => ?_)
              · have b29 : 0 ≤ a1 ∧ a1 < 36 := by omega
                refine zw_if b29 ?_
                have r30 : (-3) ≤ (m1 215 a1) ∧ (m1 215 a1) ≤ 3 := zi_rd hIm1 zq_215 (zb_124 _)
                have r31 : (-2147483648) ≤ (m1 a0 2) ∧ (m1 a0 2) ≤ 2147483647 := zi_rd hIm1 hc0 zb_28_2
                have e32 : (m1 a0 2) = 0 := (zs_eq hmm1)
                exact zw_some ⟨hIm1, hFm1, ⟨by omega, by omega⟩, ⟨by omega, by omega⟩⟩
              · have r33 : (-2147483648) ≤ (m1 a0 2) ∧ (m1 a0 2) ≤ 2147483647 := zi_rd hIm1 hc0 zb_28_2
                have e34 : (m1 a0 2) = 0 := (zs_eq hmm1)
                exact zw_some ⟨hIm1, hFm1, ⟨by omega, by omega⟩, ⟨by omega, by omega⟩⟩
      · exfalso; omega
set_option maxHeartbeats 4000000 in
theorem zl_156 (n : Nat) {a0 : Int} {m0 : zu_m} (hc0 : zcls a0 = 28)  : ∀ k : Nat, (∀ (x1 : Int) (mh : zu_m), zi_I mh → zfr [(28, 65), (28, 66), (28, 67), (28, 68), (28, 69), (28, 70), (132, 0)] m0 mh → (0 ≤ x1 ∧ x1 ≤ 48) → (48 - x1) * 1 + 0 < (k : Int) → zw (zu_ex (zt_T n) 156 6 [(40, a0), (0, x1)] [] mh) (fun v m => zi_I m ∧ zfr [(28, 65), (28, 66), (28, 67), (28, 68), (28, 69), (28, 70), (132, 0)] m0 m ∧ True)) := by
  intro k
  induction k with
  | zero => exact fun x1 mh hImh hFmh hbx1 hM => by exfalso; omega
  | succ k ih =>
    intro x1 mh hImh hFmh hbx1 hM
    refine zw_eq (zr_156_6 n a0 x1 mh) ?_
    refine zw_ite (fun h1 => ?_) (fun h1 => ?_)
    · exact zw_some ⟨hImh, hFmh, trivial⟩
    · have b2 : 0 ≤ x1 ∧ x1 < 48 := by omega
      refine zw_if b2 ?_
      have r3 : (-2147483648) ≤ (mh 222 x1) ∧ (mh 222 x1) ≤ 2147483647 := zi_rd hImh zq_222 (zb_131 _)
      have b4 : 0 ≤ x1 ∧ x1 < 48 := by omega
      refine zw_if b4 ?_
      generalize hmm5 : zu_up mh 223 x1 (mh 222 x1) = m5
      have hIm5 := zi_up hmm5 hImh zq_223 (zb_132 _) (by omega) (by omega)
      have hFm5 := zfr_up hmm5 hFmh zq_223 rfl
      have w6 := zu_w32_id (z := x1 + 1) (by omega) (by omega)
      have hM : (48 - (zu_w32 (x1 + 1))) * 1 + 0 < (k : Int) := by omega
      exact ih (zu_w32 (x1 + 1)) m5 hIm5 hFm5 ⟨by omega, by omega⟩ hM
set_option maxHeartbeats 4000000 in
theorem zk_156 (n : Nat) {a0 : Int} {m0 : zu_m} (hIm0 : zi_I m0) (hc0 : zcls a0 = 28)      : zw (zu_call (zt_T n) 156 [(40, a0)] m0) (fun v m => zi_I m ∧ zfr [(28, 65), (28, 66), (28, 67), (28, 68), (28, 69), (28, 70), (132, 0)] m0 m ∧ True) := by
  have hFm0 : zfr [(28, 65), (28, 66), (28, 67), (28, 68), (28, 69), (28, 70), (132, 0)] m0 m0 := zfr_rf _ _
  refine zw_eq (zr_156_0 n a0 m0) ?_
  refine zw_bd (zw_mono (zk_35 n hIm0 hc0) (fun v8 m7 hqm7 => ?_))
  obtain ⟨hIm7, hfm7, hvm7⟩ := hqm7
  have hFm7 := zfr_tr hFm0 hfm7 rfl
  have hM : (48 - 0) * 1 + 0 < ((49 : Nat) : Int) := by omega
  exact (zl_156 n (m0 := m0) hc0 49) 0 m7 hIm7 hFm7 ⟨by omega, by omega⟩ hM
set_option maxHeartbeats 4000000 in
theorem zk_166 (n : Nat) {a0 : Int} {m0 : zu_m} (hIm0 : zi_I m0) (hc0 : zcls a0 = 28)      : zw (zu_call (zt_T n) 166 [(40, a0)] m0) (fun v m => zi_I m ∧ zfr [(28, 76), (133, 0)] m0 m ∧ True ∧ (1 ≤ m a0 75 ∧ m a0 75 ≤ 4)) := by
  sorry
set_option maxHeartbeats 4000000 in
theorem zl_168 (n : Nat) {a0 a1 a2 : Int} {m0 : zu_m} (hc0 : zcls a0 = 28)  : ∀ k : Nat, (∀ (x3 : Int) (mh : zu_m), zi_I mh → zfr [] m0 mh → (0 ≤ a1 ∧ a1 ≤ 3) → (0 ≤ a2 ∧ a2 ≤ 3) → (0 ≤ x3 ∧ x3 ≤ 4) → (1 ≤ mh a0 75 ∧ mh a0 75 ≤ 4) → (4 - x3) * 1 + 0 < (k : Int) → zw (zu_ex (zt_T n) 168 2 [(40, a0), (0, a1), (0, a2), (0, x3)] [] mh) (fun v m => zi_I m ∧ zfr [] m0 m ∧ (0 ≤ v ∧ v ≤ 1))) := by
  intro k
  induction k with
  | zero => exact fun x3 mh hImh hFmh hba1 hba2 hbx3 hg3 hM => by exfalso; omega
  | succ k ih =>
    intro x3 mh hImh hFmh hba1 hba2 hbx3 hg3 hM
    refine zw_eq (zr_168_2 n a0 a1 a2 x3 mh) ?_
    refine zw_ite (fun h1 => ?_) (fun h1 => ?_)
    · refine zw_b (by omega) ?_
      exact zw_some ⟨hImh, hFmh, ⟨by omega, by omega⟩⟩
    · refine zw_bd (zw_mono (zk_167 n hImh hc0 ⟨by omega, by omega⟩ ⟨by omega, by omega⟩) (fun v3 m2 hqm2 => ?_))
      obtain ⟨hIm2, hfm2, hvm2⟩ := hqm2
      have hFm2 := zfr_tr hFmh hfm2 rfl
      refine zw_bd (zw_mono (zk_167 n hIm2 hc0 ⟨by omega, by omega⟩ ⟨by omega, by omega⟩) (fun v5 m4 hqm4 => ?_))
      obtain ⟨hIm4, hfm4, hvm4⟩ := hqm4
      have hFm4 := zfr_tr hFm2 hfm4 rfl
      refine zw_ite (fun h6 => ?_) (fun h6 => ?_)
      · refine zw_b (by omega) ?_
        exact zw_some ⟨hIm4, hFm4, ⟨by omega, by omega⟩⟩
      · refine zw_bd (zw_mono (zk_167 n hIm4 hc0 ⟨by omega, by omega⟩ ⟨by omega, by omega⟩) (fun v8 m7 hqm7 => ?_))
        obtain ⟨hIm7, hfm7, hvm7⟩ := hqm7
        have hFm7 := zfr_tr hFm4 hfm7 rfl
        refine zw_bd (zw_mono (zk_167 n hIm7 hc0 ⟨by omega, by omega⟩ ⟨by omega, by omega⟩) (fun v10 m9 hqm9 => ?_))
        obtain ⟨hIm9, hfm9, hvm9⟩ := hqm9
        have hFm9 := zfr_tr hFm7 hfm9 rfl
        refine zw_ite (fun h11 => ?_) (fun h11 => ?_)
        · have w12 := zu_w32_id (z := x3 + 1) (by omega) (by omega)
          have r13 : 0 ≤ (m9 a0 75) ∧ (m9 a0 75) ≤ 4 := zi_rd hIm9 hc0 zb_28_75
          have e14 : (m9 a0 75) = (mh a0 75) := (Eq.trans (zfr_ap hfm9 hc0 rfl) (Eq.trans (zfr_ap hfm7 hc0 rfl) (Eq.trans (zfr_ap hfm4 hc0 rfl) (zfr_ap hfm2 hc0 rfl))))
          have hM : (4 - (zu_w32 (x3 + 1))) * 1 + 0 < (k : Int) := by omega
          exact ih (zu_w32 (x3 + 1)) m9 hIm9 hFm9 ⟨by omega, by omega⟩ ⟨by omega, by omega⟩ ⟨by omega, by omega⟩ ⟨by omega, by omega⟩ hM
        · refine zw_b (by omega) ?_
          exact zw_some ⟨hIm9, hFm9, ⟨by omega, by omega⟩⟩
set_option maxHeartbeats 4000000 in
theorem zk_168 (n : Nat) {a0 a1 a2 : Int} {m0 : zu_m} (hIm0 : zi_I m0) (hc0 : zcls a0 = 28) (ha1 : 0 ≤ a1 ∧ a1 ≤ 3) (ha2 : 0 ≤ a2 ∧ a2 ≤ 3)  (he0 : 1 ≤ m0 a0 75 ∧ m0 a0 75 ≤ 4)   : zw (zu_call (zt_T n) 168 [(40, a0), (0, a1), (0, a2)] m0) (fun v m => zi_I m ∧ zfr [] m0 m ∧ (0 ≤ v ∧ v ≤ 1)) := by
  have hFm0 : zfr [] m0 m0 := zfr_rf _ _
  refine zw_eq (zr_168_0 n a0 a1 a2 m0) ?_
  have hM : (4 - 0) * 1 + 0 < ((5 : Nat) : Int) := by omega
  exact (zl_168 n (m0 := m0) hc0 5) 0 m0 hIm0 hFm0 ⟨by omega, by omega⟩ ⟨by omega, by omega⟩ ⟨by omega, by omega⟩ ⟨by omega, by omega⟩ hM
set_option maxHeartbeats 4000000 in
theorem zk_179 (n : Nat) {a0 a1 a2 a3 a4 : Int} {m0 : zu_m} (hIm0 : zi_I m0) (hc0 : zcls a0 = 28) (ha1 : (-2147483648) ≤ a1 ∧ a1 ≤ 2147483647) (ha2 : (-2147483648) ≤ a2 ∧ a2 ≤ 2147483647) (ha3 : (-2147483648) ≤ a3 ∧ a3 ≤ 2147483647) (ha4 : 0 ≤ a4 ∧ a4 ≤ 1)     : zw (zu_call (zt_T n) 179 [(40, a0), (0, a1), (0, a2), (0, a3), (0, a4)] m0) (fun v m => zi_I m ∧ zfr [(28, 3), (28, 78), (135, 0)] m0 m ∧ ((-1) ≤ v ∧ v ≤ 23) ∧ (0 ≤ m a0 2 ∧ m a0 2 ≤ 0)) := by
  have hFm0 : zfr [(28, 3), (28, 78), (135, 0)] m0 m0 := zfr_rf _ _
  refine zw_eq (zr_179_0 n a0 a1 a2 a3 a4 m0) ?_
  generalize hmm1 : zu_up m0 a0 2 0 = m1
  have hIm1 := zi_up hmm1 hIm0 hc0 zb_28_2 (by omega) (by omega)
  have hFm1 := zfr_up hmm1 hFm0 hc0 rfl
  have r2 : 0 ≤ (m1 a0 77) ∧ (m1 a0 77) ≤ 24 := zi_rd hIm1 hc0 zb_28_77
  refine zw_ite (fun h3 => ?_) (fun h3 => ?_)
  · have r4 : (-2147483648) ≤ (m1 a0 2) ∧ (m1 a0 2) ≤ 2147483647 := zi_rd hIm1 hc0 zb_28_2
    have e5 : (m1 a0 2) = 0 := (zs_eq hmm1)
    exact zw_some ⟨hIm1, hFm1, ⟨by omega, by omega⟩, ⟨by omega, by omega⟩⟩
  · refine zw_bd (zw_eq (zr_83_0 n a1 1 200 m1) ?_)
    refine zw_ite (fun h6 => ?_) (fun h6 => ?_)
    · refine zw_b (by omega) ?_
      refine zw_some ?_
      refine zw_ite (fun h7 => ?_) (fun h7 => ?_)
      · have r8 : (-2147483648) ≤ (m1 a0 2) ∧ (m1 a0 2) ≤ 2147483647 := zi_rd hIm1 hc0 zb_28_2
        have e9 : (m1 a0 2) = 0 := (zs_eq hmm1)
        exact zw_some ⟨hIm1, hFm1, ⟨by omega, by omega⟩, ⟨by omega, by omega⟩⟩
      · exfalso; omega
    · refine zw_ite (fun h10 => ?_) (fun h10 => ?_)
      · refine zw_b (by omega) ?_
        refine zw_some ?_
        refine zw_ite (fun h11 => ?_) (fun h11 => ?_)
        · have r12 : (-2147483648) ≤ (m1 a0 2) ∧ (m1 a0 2) ≤ 2147483647 := zi_rd hIm1 hc0 zb_28_2
          have e13 : (m1 a0 2) = 0 := (zs_eq hmm1)
          exact zw_some ⟨hIm1, hFm1, ⟨by omega, by omega⟩, ⟨by omega, by omega⟩⟩
        · exfalso; omega
      · refine zw_b (by omega) ?_
        refine zw_some ?_
        refine zw_ite (fun h14 => ?_) (fun h14 => ?_)
        · exfalso; omega
        · refine zw_bd (zw_eq (zr_125_0 n a0 a2 m1) ?_)
          refine zw_ite (fun h15 => ?_) (fun h15 => ?_)
          · refine zw_b (by omega) ?_
            refine zw_some ?_
            refine zw_ite (fun h16 => ?_) (fun h16 => ?_)
            · have r17 : (-2147483648) ≤ (m1 a0 2) ∧ (m1 a0 2) ≤ 2147483647 := zi_rd hIm1 hc0 zb_28_2
              have e18 : (m1 a0 2) = 0 := (zs_eq hmm1)
              exact zw_some ⟨hIm1, hFm1, ⟨by omega, by omega⟩, ⟨by omega, by omega⟩⟩
            · exfalso; omega
          · have r19 : 0 ≤ (m1 a0 15) ∧ (m1 a0 15) ≤ 4 := zi_rd hIm1 hc0 zb_28_15
            refine zw_ite (fun h20 => ?_) (fun h20 => ?_)
            · refine zw_b (by omega) ?_
              refine zw_some ?_
              refine zw_ite (fun h21 => ?_) (fun h21 => ?_)
              · have r22 : (-2147483648) ≤ (m1 a0 2) ∧ (m1 a0 2) ≤ 2147483647 := zi_rd hIm1 hc0 zb_28_2
                have e23 : (m1 a0 2) = 0 := (zs_eq hmm1)
                exact zw_some ⟨hIm1, hFm1, ⟨by omega, by omega⟩, ⟨by omega, by omega⟩⟩
              · exfalso; omega
            · refine zw_b (by omega) ?_
              refine zw_some ?_
              refine zw_ite (fun h24 => ?_) (fun h24 => ?_)
              · exfalso; omega
              · refine zw_bd (zw_eq (zr_83_0 n a3 0 16 m1) ?_)
                refine zw_ite (fun h25 => ?_) (fun h25 => ?_)
                · refine zw_b (by omega) ?_
                  refine zw_some ?_
                  refine zw_ite (fun h26 => ?_) (fun h26 => ?_)
                  · exfalso; omega
                  · have r27 : (-2147483648) ≤ (m1 a0 2) ∧ (m1 a0 2) ≤ 2147483647 := zi_rd hIm1 hc0 zb_28_2
                    have e28 : (m1 a0 2) = 0 := (zs_eq hmm1)
                    exact zw_some ⟨hIm1, hFm1, ⟨by omega, by omega⟩, ⟨by omega, by omega⟩⟩
                · refine zw_ite (fun h29 => ?_) (fun h29 => ?_)
                  · refine zw_b (by omega) ?_
                    refine zw_some ?_
                    refine zw_ite (fun h30 => ?_) (fun h30 => ?_)
                    · exfalso; omega
                    · have r31 : (-2147483648) ≤ (m1 a0 2) ∧ (m1 a0 2) ≤ 2147483647 := zi_rd hIm1 hc0 zb_28_2
                      have e32 : (m1 a0 2) = 0 := (zs_eq hmm1)
                      exact zw_some ⟨hIm1, hFm1, ⟨by omega, by omega⟩, ⟨by omega, by omega⟩⟩
                  · refine zw_b (by omega) ?_
                    refine zw_some ?_
                    refine zw_ite (fun h33 => ?_) (fun h33 => ?_)
                    · refine zw_ite (fun h34 => ?_) (fun h34 => ?_)
                      · refine zw_bd (zw_eq (zr_178_0 n a0 a1 a2 a3 0 m1) ?_)
                        have w35 := zu_w32_id (z := 4 * (m1 a0 77)) (by omega) (by omega)
                        have b36 : 0 ≤ (zu_w32 (4 * (m1 a0 77))) ∧ (zu_w32 (4 * (m1 a0 77))) < 96 := by omega
                        refine zw_if b36 ?_
                        generalize hmm37 : zu_up m1 226 (zu_w32 (4 * (m1 a0 77))) a1 = m37
                        have hIm37 := zi_upr (m := 4) (r0 := 0) (r1 := 0) (lo := (-1)) (hi := 200) hmm37 hIm1 zq_226 (by omega) (by decide +kernel) (by omega) (by omega)
                        have hFm37 := zfr_up hmm37 hFm1 zq_226 rfl
                        have r38 : 0 ≤ (m37 a0 77) ∧ (m37 a0 77) ≤ 24 := zi_rd hIm37 hc0 zb_28_77
                        have e39 : (m37 a0 77) = (m1 a0 77) := (zs_ne hmm37 (Or.inl (zc_ne hc0 zq_226 (by decide))))
                        have w40 := zu_w32_id (z := 4 * (m37 a0 77)) (by omega) (by omega)
                        have w41 := zu_w32_id (z := (zu_w32 (4 * (m37 a0 77))) + 1) (by omega) (by omega)
                        have b42 : 0 ≤ (zu_w32 ((zu_w32 (4 * (m37 a0 77))) + 1)) ∧ (zu_w32 ((zu_w32 (4 * (m37 a0 77))) + 1)) < 96 := by omega
                        refine zw_if b42 ?_
                        generalize hmm43 : zu_up m37 226 (zu_w32 ((zu_w32 (4 * (m37 a0 77))) + 1)) a2 = m43
                        have hIm43 := zi_upr (m := 4) (r0 := 1) (r1 := 1) (lo := 0) (hi := 23) hmm43 hIm37 zq_226 (by omega) (by decide +kernel) (by omega) (by omega)
                        have hFm43 := zfr_up hmm43 hFm37 zq_226 rfl
                        have r44 : 0 ≤ (m43 a0 77) ∧ (m43 a0 77) ≤ 24 := zi_rd hIm43 hc0 zb_28_77
                        have e45 : (m43 a0 77) = (m37 a0 77) := (zs_ne hmm43 (Or.inl (zc_ne hc0 zq_226 (by decide))))
                        have w46 := zu_w32_id (z := 4 * (m43 a0 77)) (by omega) (by omega)
                        have w47 := zu_w32_id (z := (zu_w32 (4 * (m43 a0 77))) + 2) (by omega) (by omega)
                        have b48 : 0 ≤ (zu_w32 ((zu_w32 (4 * (m43 a0 77))) + 2)) ∧ (zu_w32 ((zu_w32 (4 * (m43 a0 77))) + 2)) < 96 := by omega
                        refine zw_if b48 ?_
                        generalize hmm49 : zu_up m43 226 (zu_w32 ((zu_w32 (4 * (m43 a0 77))) + 2)) a3 = m49
                        have hIm49 := zi_upr (m := 4) (r0 := 2) (r1 := 2) (lo := 0) (hi := 16) hmm49 hIm43 zq_226 (by omega) (by decide +kernel) (by omega) (by omega)
                        have hFm49 := zfr_up hmm49 hFm43 zq_226 rfl
                        have r50 : 0 ≤ (m49 a0 77) ∧ (m49 a0 77) ≤ 24 := zi_rd hIm49 hc0 zb_28_77
                        have e51 : (m49 a0 77) = (m43 a0 77) := (zs_ne hmm49 (Or.inl (zc_ne hc0 zq_226 (by decide))))
                        have w52 := zu_w32_id (z := 4 * (m49 a0 77)) (by omega) (by omega)
                        have w53 := zu_w32_id (z := (zu_w32 (4 * (m49 a0 77))) + 3) (by omega) (by omega)
                        have b54 : 0 ≤ (zu_w32 ((zu_w32 (4 * (m49 a0 77))) + 3)) ∧ (zu_w32 ((zu_w32 (4 * (m49 a0 77))) + 3)) < 96 := by omega
                        refine zw_if b54 ?_
                        generalize hmm55 : zu_up m49 226 (zu_w32 ((zu_w32 (4 * (m49 a0 77))) + 3)) 0 = m55
                        have hIm55 := zi_upr (m := 4) (r0 := 3) (r1 := 3) (lo := 0) (hi := 1) hmm55 hIm49 zq_226 (by omega) (by decide +kernel) (by omega) (by omega)
                        have hFm55 := zfr_up hmm55 hFm49 zq_226 rfl
                        have r56 : 0 ≤ (m55 a0 77) ∧ (m55 a0 77) ≤ 24 := zi_rd hIm55 hc0 zb_28_77
                        have e57 : (m55 a0 77) = (m49 a0 77) := (zs_ne hmm55 (Or.inl (zc_ne hc0 zq_226 (by decide))))
                        have w58 := zu_w32_id (z := (m55 a0 77) + 1) (by omega) (by omega)
                        generalize hmm59 : zu_up m55 a0 77 (zu_w32 ((m55 a0 77) + 1)) = m59
                        have hIm59 := zi_up hmm59 hIm55 hc0 zb_28_77 (by omega) (by omega)
                        have hFm59 := zfr_up hmm59 hFm55 hc0 rfl
                        have r60 : 0 ≤ (m59 a0 77) ∧ (m59 a0 77) ≤ 24 := zi_rd hIm59 hc0 zb_28_77
                        have e61 : (m59 a0 77) = (zu_w32 ((m55 a0 77) + 1)) := (zs_eq hmm59)
                        have w62 := zu_w32_id (z := (m59 a0 77) - 1) (by omega) (by omega)
                        refine zw_some ?_
                        have r63 : (-2147483648) ≤ (m59 a0 2) ∧ (m59 a0 2) ≤ 2147483647 := zi_rd hIm59 hc0 zb_28_2
                        have e64 : (m59 a0 2) = 0 := (Eq.trans (zs_ne hmm59 (Or.inr (by decide))) (Eq.trans (zs_ne hmm55 (Or.inl (zc_ne hc0 zq_226 (by decide)))) (Eq.trans (zs_ne hmm49 (Or.inl (zc_ne hc0 zq_226 (by decide)))) (Eq.trans (zs_ne hmm43 (Or.inl (zc_ne hc0 zq_226 (by decide)))) (Eq.trans (zs_ne hmm37 (Or.inl (zc_ne hc0 zq_226 (by decide)))) (zs_eq hmm1))))))
                        exact zw_some ⟨hIm59, hFm59, ⟨by omega, by omega⟩, ⟨by omega, by omega⟩⟩
                      · refine zw_bd (zw_eq (zr_178_0 n a0 a1 a2 a3 1 m1) ?_)
                        have w65 := zu_w32_id (z := 4 * (m1 a0 77)) (by omega) (by omega)
                        have b66 : 0 ≤ (zu_w32 (4 * (m1 a0 77))) ∧ (zu_w32 (4 * (m1 a0 77))) < 96 := by omega
                        refine zw_if b66 ?_
                        generalize hmm67 : zu_up m1 226 (zu_w32 (4 * (m1 a0 77))) a1 = m67
                        have hIm67 := zi_upr (m := 4) (r0 := 0) (r1 := 0) (lo := (-1)) (hi := 200) hmm67 hIm1 zq_226 (by omega) (by decide +kernel) (by omega) (by omega)
                        have hFm67 := zfr_up hmm67 hFm1 zq_226 rfl
                        have r68 : 0 ≤ (m67 a0 77) ∧ (m67 a0 77) ≤ 24 := zi_rd hIm67 hc0 zb_28_77
                        have e69 : (m67 a0 77) = (m1 a0 77) := (zs_ne hmm67 (Or.inl (zc_ne hc0 zq_226 (by decide))))
                        have w70 := zu_w32_id (z := 4 * (m67 a0 77)) (by omega) (by omega)
                        have w71 := zu_w32_id (z := (zu_w32 (4 * (m67 a0 77))) + 1) (by omega) (by omega)
                        have b72 : 0 ≤ (zu_w32 ((zu_w32 (4 * (m67 a0 77))) + 1)) ∧ (zu_w32 ((zu_w32 (4 * (m67 a0 77))) + 1)) < 96 := by omega
                        refine zw_if b72 ?_
                        generalize hmm73 : zu_up m67 226 (zu_w32 ((zu_w32 (4 * (m67 a0 77))) + 1)) a2 = m73
                        have hIm73 := zi_upr (m := 4) (r0 := 1) (r1 := 1) (lo := 0) (hi := 23) hmm73 hIm67 zq_226 (by omega) (by decide +kernel) (by omega) (by omega)
                        have hFm73 := zfr_up hmm73 hFm67 zq_226 rfl
                        have r74 : 0 ≤ (m73 a0 77) ∧ (m73 a0 77) ≤ 24 := zi_rd hIm73 hc0 zb_28_77
                        have e75 : (m73 a0 77) = (m67 a0 77) := (zs_ne hmm73 (Or.inl (zc_ne hc0 zq_226 (by decide))))
                        have w76 := zu_w32_id (z := 4 * (m73 a0 77)) (by omega) (by omega)
                        have w77 := zu_w32_id (z := (zu_w32 (4 * (m73 a0 77))) + 2) (by omega) (by omega)
                        have b78 : 0 ≤ (zu_w32 ((zu_w32 (4 * (m73 a0 77))) + 2)) ∧ (zu_w32 ((zu_w32 (4 * (m73 a0 77))) + 2)) < 96 := by omega
                        refine zw_if b78 ?_
                        generalize hmm79 : zu_up m73 226 (zu_w32 ((zu_w32 (4 * (m73 a0 77))) + 2)) a3 = m79
                        have hIm79 := zi_upr (m := 4) (r0 := 2) (r1 := 2) (lo := 0) (hi := 16) hmm79 hIm73 zq_226 (by omega) (by decide +kernel) (by omega) (by omega)
                        have hFm79 := zfr_up hmm79 hFm73 zq_226 rfl
                        have r80 : 0 ≤ (m79 a0 77) ∧ (m79 a0 77) ≤ 24 := zi_rd hIm79 hc0 zb_28_77
                        have e81 : (m79 a0 77) = (m73 a0 77) := (zs_ne hmm79 (Or.inl (zc_ne hc0 zq_226 (by decide))))
                        have w82 := zu_w32_id (z := 4 * (m79 a0 77)) (by omega) (by omega)
                        have w83 := zu_w32_id (z := (zu_w32 (4 * (m79 a0 77))) + 3) (by omega) (by omega)
                        have b84 : 0 ≤ (zu_w32 ((zu_w32 (4 * (m79 a0 77))) + 3)) ∧ (zu_w32 ((zu_w32 (4 * (m79 a0 77))) + 3)) < 96 := by omega
                        refine zw_if b84 ?_
                        generalize hmm85 : zu_up m79 226 (zu_w32 ((zu_w32 (4 * (m79 a0 77))) + 3)) 1 = m85
                        have hIm85 := zi_upr (m := 4) (r0 := 3) (r1 := 3) (lo := 0) (hi := 1) hmm85 hIm79 zq_226 (by omega) (by decide +kernel) (by omega) (by omega)
                        have hFm85 := zfr_up hmm85 hFm79 zq_226 rfl
                        have r86 : 0 ≤ (m85 a0 77) ∧ (m85 a0 77) ≤ 24 := zi_rd hIm85 hc0 zb_28_77
                        have e87 : (m85 a0 77) = (m79 a0 77) := (zs_ne hmm85 (Or.inl (zc_ne hc0 zq_226 (by decide))))
                        have w88 := zu_w32_id (z := (m85 a0 77) + 1) (by omega) (by omega)
                        generalize hmm89 : zu_up m85 a0 77 (zu_w32 ((m85 a0 77) + 1)) = m89
                        have hIm89 := zi_up hmm89 hIm85 hc0 zb_28_77 (by omega) (by omega)
                        have hFm89 := zfr_up hmm89 hFm85 hc0 rfl
                        have r90 : 0 ≤ (m89 a0 77) ∧ (m89 a0 77) ≤ 24 := zi_rd hIm89 hc0 zb_28_77
                        have e91 : (m89 a0 77) = (zu_w32 ((m85 a0 77) + 1)) := (zs_eq hmm89)
                        have w92 := zu_w32_id (z := (m89 a0 77) - 1) (by omega) (by omega)
                        refine zw_some ?_
                        have r93 : (-2147483648) ≤ (m89 a0 2) ∧ (m89 a0 2) ≤ 2147483647 := zi_rd hIm89 hc0 zb_28_2
                        have e94 : (m89 a0 2) = 0 := (Eq.trans (zs_ne hmm89 (Or.inr (by decide))) (Eq.trans (zs_ne hmm85 (Or.inl (zc_ne hc0 zq_226 (by decide)))) (Eq.trans (zs_ne hmm79 (Or.inl (zc_ne hc0 zq_226 (by decide)))) (Eq.trans (zs_ne hmm73 (Or.inl (zc_ne hc0 zq_226 (by decide)))) (Eq.trans (zs_ne hmm67 (Or.inl (zc_ne hc0 zq_226 (by decide)))) (zs_eq hmm1))))))
                        exact zw_some ⟨hIm89, hFm89, ⟨by omega, by omega⟩, ⟨by omega, by omega⟩⟩
                    · exfalso; omega
set_option maxHeartbeats 4000000 in
theorem zk_180 (n : Nat) {a0 a1 : Int} {m0 : zu_m} (hIm0 : zi_I m0) (hc0 : zcls a0 = 28) (ha1 : (-2147483648) ≤ a1 ∧ a1 ≤ 2147483647)     : zw (zu_call (zt_T n) 180 [(40, a0), (0, a1)] m0) (fun v m => zi_I m ∧ zfr [(28, 3), (28, 78), (135, 0)] m0 m ∧ ((-1) ≤ v ∧ v ≤ 23) ∧ (0 ≤ m a0 2 ∧ m a0 2 ≤ 0)) := by
  have hFm0 : zfr [(28, 3), (28, 78), (135, 0)] m0 m0 := zfr_rf _ _
  refine zw_eq (zr_180_0 n a0 a1 m0) ?_
  generalize hmm1 : zu_up m0 a0 2 0 = m1
  have hIm1 := zi_up hmm1 hIm0 hc0 zb_28_2 (by omega) (by omega)
  have hFm1 := zfr_up hmm1 hFm0 hc0 rfl
  have r2 : 0 ≤ (m1 a0 77) ∧ (m1 a0 77) ≤ 24 := zi_rd hIm1 hc0 zb_28_77
  refine zw_ite (fun h3 => ?_) (fun h3 => ?_)
  · have r4 : (-2147483648) ≤ (m1 a0 2) ∧ (m1 a0 2) ≤ 2147483647 := zi_rd hIm1 hc0 zb_28_2
    have e5 : (m1 a0 2) = 0 := (zs_eq hmm1)
    exact zw_some ⟨hIm1, hFm1, ⟨by omega, by omega⟩, ⟨by omega, by omega⟩⟩
  · refine zw_ite (fun h6 => ?_) (fun h6 => ?_)
    · have r7 : (-2147483648) ≤ (m1 a0 2) ∧ (m1 a0 2) ≤ 2147483647 := zi_rd hIm1 hc0 zb_28_2
      have e8 : (m1 a0 2) = 0 := (zs_eq hmm1)
      exact zw_some ⟨hIm1, hFm1, ⟨by omega, by omega⟩, ⟨by omega, by omega⟩⟩
    · refine zw_ite (fun h9 => ?_) (fun h9 => ?_)
      · refine zw_bd (zw_eq (zr_178_0 n a0 (-1) a1 0 0 m1) ?_)
        have w10 := zu_w32_id (z := 4 * (m1 a0 77)) (by omega) (by omega)
        have b11 : 0 ≤ (zu_w32 (4 * (m1 a0 77))) ∧ (zu_w32 (4 * (m1 a0 77))) < 96 := by omega
        refine zw_if b11 ?_
        generalize hmm12 : zu_up m1 226 (zu_w32 (4 * (m1 a0 77))) (-1) = m12
        have hIm12 := zi_upr (m := 4) (r0 := 0) (r1 := 0) (lo := (-1)) (hi := 200) hmm12 hIm1 zq_226 (by omega) (by decide +kernel) (by omega) (by omega)
        have hFm12 := zfr_up hmm12 hFm1 zq_226 rfl
        have r13 : 0 ≤ (m12 a0 77) ∧ (m12 a0 77) ≤ 24 := zi_rd hIm12 hc0 zb_28_77
        have e14 : (m12 a0 77) = (m1 a0 77) := (zs_ne hmm12 (Or.inl (zc_ne hc0 zq_226 (by decide))))
        have w15 := zu_w32_id (z := 4 * (m12 a0 77)) (by omega) (by omega)
        have w16 := zu_w32_id (z := (zu_w32 (4 * (m12 a0 77))) + 1) (by omega) (by omega)
        have b17 : 0 ≤ (zu_w32 ((zu_w32 (4 * (m12 a0 77))) + 1)) ∧ (zu_w32 ((zu_w32 (4 * (m12 a0 77))) + 1)) < 96 := by omega
        refine zw_if b17 ?_
        generalize hmm18 : zu_up m12 226 (zu_w32 ((zu_w32 (4 * (m12 a0 77))) + 1)) a1 = m18
        have hIm18 := zi_upr (m := 4) (r0 := 1) (r1 := 1) (lo := 0) (hi := 23) hmm18 hIm12 zq_226 (by omega) (by decide +kernel) (by omega) (by omega)
        have hFm18 := zfr_up hmm18 hFm12 zq_226 rfl
        have r19 : 0 ≤ (m18 a0 77) ∧ (m18 a0 77) ≤ 24 := zi_rd hIm18 hc0 zb_28_77
        have e20 : (m18 a0 77) = (m12 a0 77) := (zs_ne hmm18 (Or.inl (zc_ne hc0 zq_226 (by decide))))
        have w21 := zu_w32_id (z := 4 * (m18 a0 77)) (by omega) (by omega)
        have w22 := zu_w32_id (z := (zu_w32 (4 * (m18 a0 77))) + 2) (by omega) (by omega)
        have b23 : 0 ≤ (zu_w32 ((zu_w32 (4 * (m18 a0 77))) + 2)) ∧ (zu_w32 ((zu_w32 (4 * (m18 a0 77))) + 2)) < 96 := by omega
        refine zw_if b23 ?_
        generalize hmm24 : zu_up m18 226 (zu_w32 ((zu_w32 (4 * (m18 a0 77))) + 2)) 0 = m24
        have hIm24 := zi_upr (m := 4) (r0 := 2) (r1 := 2) (lo := 0) (hi := 16) hmm24 hIm18 zq_226 (by omega) (by decide +kernel) (by omega) (by omega)
        have hFm24 := zfr_up hmm24 hFm18 zq_226 rfl
        have r25 : 0 ≤ (m24 a0 77) ∧ (m24 a0 77) ≤ 24 := zi_rd hIm24 hc0 zb_28_77
        have e26 : (m24 a0 77) = (m18 a0 77) := (zs_ne hmm24 (Or.inl (zc_ne hc0 zq_226 (by decide))))
        have w27 := zu_w32_id (z := 4 * (m24 a0 77)) (by omega) (by omega)
        have w28 := zu_w32_id (z := (zu_w32 (4 * (m24 a0 77))) + 3) (by omega) (by omega)
        have b29 : 0 ≤ (zu_w32 ((zu_w32 (4 * (m24 a0 77))) + 3)) ∧ (zu_w32 ((zu_w32 (4 * (m24 a0 77))) + 3)) < 96 := by omega
        refine zw_if b29 ?_
        generalize hmm30 : zu_up m24 226 (zu_w32 ((zu_w32 (4 * (m24 a0 77))) + 3)) 0 = m30
        have hIm30 := zi_upr (m := 4) (r0 := 3) (r1 := 3) (lo := 0) (hi := 1) hmm30 hIm24 zq_226 (by omega) (by decide +kernel) (by omega) (by omega)
        have hFm30 := zfr_up hmm30 hFm24 zq_226 rfl
        have r31 : 0 ≤ (m30 a0 77) ∧ (m30 a0 77) ≤ 24 := zi_rd hIm30 hc0 zb_28_77
        have e32 : (m30 a0 77) = (m24 a0 77) := (zs_ne hmm30 (Or.inl (zc_ne hc0 zq_226 (by decide))))
        have w33 := zu_w32_id (z := (m30 a0 77) + 1) (by omega) (by omega)
        generalize hmm34 : zu_up m30 a0 77 (zu_w32 ((m30 a0 77) + 1)) = m34
        have hIm34 := zi_up hmm34 hIm30 hc0 zb_28_77 (by omega) (by omega)
        have hFm34 := zfr_up hmm34 hFm30 hc0 rfl
        have r35 : 0 ≤ (m34 a0 77) ∧ (m34 a0 77) ≤ 24 := zi_rd hIm34 hc0 zb_28_77
        have e36 : (m34 a0 77) = (zu_w32 ((m30 a0 77) + 1)) := (zs_eq hmm34)
        have w37 := zu_w32_id (z := (m34 a0 77) - 1) (by omega) (by omega)
        refine zw_some ?_
        have r38 : (-2147483648) ≤ (m34 a0 2) ∧ (m34 a0 2) ≤ 2147483647 := zi_rd hIm34 hc0 zb_28_2
        have e39 : (m34 a0 2) = 0 := (Eq.trans (zs_ne hmm34 (Or.inr (by decide))) (Eq.trans (zs_ne hmm30 (Or.inl (zc_ne hc0 zq_226 (by decide)))) (Eq.trans (zs_ne hmm24 (Or.inl (zc_ne hc0 zq_226 (by decide)))) (Eq.trans (zs_ne hmm18 (Or.inl (zc_ne hc0 zq_226 (by decide)))) (Eq.trans (zs_ne hmm12 (Or.inl (zc_ne hc0 zq_226 (by decide)))) (zs_eq hmm1))))))
        exact zw_some ⟨hIm34, hFm34, ⟨by omega, by omega⟩, ⟨by omega, by omega⟩⟩
      · have r40 : (-2147483648) ≤ (m1 a0 2) ∧ (m1 a0 2) ≤ 2147483647 := zi_rd hIm1 hc0 zb_28_2
        have e41 : (m1 a0 2) = 0 := (zs_eq hmm1)
        exact zw_some ⟨hIm1, hFm1, ⟨by omega, by omega⟩, ⟨by omega, by omega⟩⟩
set_option maxHeartbeats 4000000 in
theorem zk_181 (n : Nat) {a0 a1 : Int} {m0 : zu_m} (hIm0 : zi_I m0) (hc0 : zcls a0 = 28) (ha1 : (-2147483648) ≤ a1 ∧ a1 ≤ 2147483647)     : zw (zu_call (zt_T n) 181 [(40, a0), (0, a1)] m0) (fun v m => zi_I m ∧ zfr [(28, 3), (28, 79)] m0 m ∧ (0 ≤ v ∧ v ≤ 1) ∧ (0 ≤ m a0 2 ∧ m a0 2 ≤ 0)) := by
  have hFm0 : zfr [(28, 3), (28, 79)] m0 m0 := zfr_rf _ _
  refine zw_eq (zr_181_0 n a0 a1 m0) ?_
  generalize hmm1 : zu_up m0 a0 2 0 = m1
  have hIm1 := zi_up hmm1 hIm0 hc0 zb_28_2 (by omega) (by omega)
  have hFm1 := zfr_up hmm1 hFm0 hc0 rfl
  have r2 : 0 ≤ (m1 a0 77) ∧ (m1 a0 77) ≤ 24 := zi_rd hIm1 hc0 zb_28_77
  refine zw_bd (zw_eq (zr_83_0 n a1 (-1) (m1 a0 77) m1) ?_)
  refine zw_ite (fun h3 => ?_) (fun h3 => ?_)
  · refine zw_b (by omega) ?_
    refine zw_some ?_
    refine zw_ite (fun h4 => ?_) (fun h4 => ?_)
    · exfalso; omega
    · refine zw_b (by omega) ?_
      have r5 : (-2147483648) ≤ (m1 a0 2) ∧ (m1 a0 2) ≤ 2147483647 := zi_rd hIm1 hc0 zb_28_2
      have e6 : (m1 a0 2) = 0 := (zs_eq hmm1)
      exact zw_some ⟨hIm1, hFm1, ⟨by omega, by omega⟩, ⟨by omega, by omega⟩⟩
  · refine zw_ite (fun h7 => ?_) (fun h7 => ?_)
    · refine zw_b (by omega) ?_
      refine zw_some ?_
      refine zw_ite (fun h8 => ?_) (fun h8 => ?_)
      · exfalso; omega
      · refine zw_b (by omega) ?_
        have r9 : (-2147483648) ≤ (m1 a0 2) ∧ (m1 a0 2) ≤ 2147483647 := zi_rd hIm1 hc0 zb_28_2
        have e10 : (m1 a0 2) = 0 := (zs_eq hmm1)
        exact zw_some ⟨hIm1, hFm1, ⟨by omega, by omega⟩, ⟨by omega, by omega⟩⟩
    · refine zw_b (by omega) ?_
      refine zw_some ?_
      refine zw_ite (fun h11 => ?_) (fun h11 => ?_)
      · generalize hmm12 : zu_up m1 a0 78 a1 = m12
        have hIm12 := zi_up hmm12 hIm1 hc0 zb_28_78 (by omega) (by omega)
        have hFm12 := zfr_up hmm12 hFm1 hc0 rfl
        refine zw_b (by omega) ?_
        have r13 : (-2147483648) ≤ (m12 a0 2) ∧ (m12 a0 2) ≤ 2147483647 := zi_rd hIm12 hc0 zb_28_2
        have e14 : (m12 a0 2) = 0 := (Eq.trans (zs_ne hmm12 (Or.inr (by decide))) (zs_eq hmm1))
        exact zw_some ⟨hIm12, hFm12, ⟨by omega, by omega⟩, ⟨by omega, by omega⟩⟩
      · exfalso; omega
set_option maxHeartbeats 4000000 in
theorem zl_183 (n : Nat) {a0 a1 : Int} {m0 : zu_m} (hc0 : zcls a0 = 28)  : ∀ k : Nat, (∀ (x2 : Int) (mh : zu_m), zi_I mh → zfr [] m0 mh → (1 ≤ a1 ∧ a1 ≤ 200) → (0 ≤ x2 ∧ x2 ≤ 24) → (24 - x2) * 1 + 0 < (k : Int) → zw (zu_ex (zt_T n) 183 2 [(40, a0), (0, a1), (0, x2), (2, 0)] [] mh) (fun v m => zi_I m ∧ zfr [] m0 m ∧ (0 ≤ v ∧ v ≤ 1))) := by
  intro k
  induction k with
  | zero => exact fun x2 mh hImh hFmh hba1 hbx2 hM => by exfalso; omega
  | succ k ih =>
    intro x2 mh hImh hFmh hba1 hbx2 hM
    refine zw_eq (zr_183_2 n a0 a1 x2 mh) ?_
    refine zw_bd (zw_eq (zr_182_0 n a0 mh) ?_)
    have r1 : (-1) ≤ (mh a0 78) ∧ (mh a0 78) ≤ 24 := zi_rd hImh hc0 zb_28_78
    refine zw_ite (fun h2 => ?_) (fun h2 => ?_)
    · refine zw_some ?_
      refine zw_ite (fun h3 => ?_) (fun h3 => ?_)
      · refine zw_b (by omega) ?_
        exact zw_some ⟨hImh, hFmh, ⟨by omega, by omega⟩⟩
      · have b4 : 0 ≤ x2 ∧ x2 < 24 := by omega
        refine zw_if b4 ?_
        have r5 : 0 ≤ (mh 227 x2) ∧ (mh 227 x2) ≤ 1 := zi_rd hImh zq_227 (zb_136 _)
        refine zw_ite (fun h6 => ?_) (fun h6 => ?_)
        · have w7 := zu_w32_id (z := x2 + 1) (by omega) (by omega)
          have hM : (24 - (zu_w32 (x2 + 1))) * 1 + 0 < (k : Int) := by omega
          exact ih (zu_w32 (x2 + 1)) mh hImh hFmh ⟨by omega, by omega⟩ ⟨by omega, by omega⟩ hM
        · have w8 := zu_w32_id (z := 4 * x2) (by omega) (by omega)
          have b9 : 0 ≤ (zu_w32 (4 * x2)) ∧ (zu_w32 (4 * x2)) < 96 := by omega
          refine zw_if b9 ?_
          have r10 : (-1) ≤ (mh 226 (zu_w32 (4 * x2))) ∧ (mh 226 (zu_w32 (4 * x2))) ≤ 200 := zi_rdr (m := 4) (r0 := 0) (r1 := 0) hImh zq_226 (by omega) (by decide +kernel)
          refine zw_ite (fun h11 => ?_) (fun h11 => ?_)
          · have w12 := zu_w32_id (z := (zu_w32 (4 * x2)) + 1) (by omega) (by omega)
            have b13 : 0 ≤ (zu_w32 ((zu_w32 (4 * x2)) + 1)) ∧ (zu_w32 ((zu_w32 (4 * x2)) + 1)) < 96 := by omega
            refine zw_if b13 ?_
            have r14 : 0 ≤ (mh 226 (zu_w32 ((zu_w32 (4 * x2)) + 1))) ∧ (mh 226 (zu_w32 ((zu_w32 (4 * x2)) + 1))) ≤ 23 := zi_rdr (m := 4) (r0 := 1) (r1 := 1) hImh zq_226 (by omega) (by decide +kernel)
            refine zw_bd (zw_mono (zk_130 n hImh hc0 ⟨by omega, by omega⟩ ⟨by omega, by omega⟩) (fun v16 m15 hqm15 => ?_))
            obtain ⟨hIm15, hfm15, hvm15⟩ := hqm15
            have hFm15 := zfr_tr hFmh hfm15 rfl
            have w17 := zu_w32_id (z := (zu_w32 (4 * x2)) + 2) (by omega) (by omega)
            have b18 : 0 ≤ (zu_w32 ((zu_w32 (4 * x2)) + 2)) ∧ (zu_w32 ((zu_w32 (4 * x2)) + 2)) < 96 := by omega
            refine zw_if b18 ?_
            have r19 : 0 ≤ (m15 226 (zu_w32 ((zu_w32 (4 * x2)) + 2))) ∧ (m15 226 (zu_w32 ((zu_w32 (4 * x2)) + 2))) ≤ 16 := zi_rdr (m := 4) (r0 := 2) (r1 := 2) hIm15 zq_226 (by omega) (by decide +kernel)
            refine zw_ite (fun h20 => ?_) (fun h20 => ?_)
            · have w21 := zu_w32_id (z := (zu_w32 (4 * x2)) + 3) (by omega) (by omega)
              have b22 : 0 ≤ (zu_w32 ((zu_w32 (4 * x2)) + 3)) ∧ (zu_w32 ((zu_w32 (4 * x2)) + 3)) < 96 := by omega
              refine zw_if b22 ?_
              have r23 : 0 ≤ (m15 226 (zu_w32 ((zu_w32 (4 * x2)) + 3))) ∧ (m15 226 (zu_w32 ((zu_w32 (4 * x2)) + 3))) ≤ 1 := zi_rdr (m := 4) (r0 := 3) (r1 := 3) hIm15 zq_226 (by omega) (by decide +kernel)
              refine zw_ite (fun h24 => ?_) (fun h24 => ?_)
              · refine zw_ite (fun h25 => ?_) (fun h25 => ?_)
                · have w26 := zu_w32_id (z := x2 + 1) (by omega) (by omega)
                  have hM : (24 - (zu_w32 (x2 + 1))) * 1 + 0 < (k : Int) := by omega
                  exact zw_le (zu_forget (zu_lr_same (zu_lr_same (zu_lr_same (zu_lr_drop zu_lr_nil))))) (ih (zu_w32 (x2 + 1)) m15 hIm15 hFm15 ⟨by omega, by omega⟩ ⟨by omega, by omega⟩ hM)
                · exfalso; omega
              · refine zw_ite (fun h27 => ?_) (fun h27 => ?_)
                · exfalso; omega
                · refine zw_b (by omega) ?_
                  exact zw_some ⟨hIm15, hFm15, ⟨by omega, by omega⟩⟩
            · have w28 := zu_w32_id (z := (zu_w32 (4 * x2)) + 3) (by omega) (by omega)
              have b29 : 0 ≤ (zu_w32 ((zu_w32 (4 * x2)) + 3)) ∧ (zu_w32 ((zu_w32 (4 * x2)) + 3)) < 96 := by omega
              refine zw_if b29 ?_
              have r30 : 0 ≤ (m15 226 (zu_w32 ((zu_w32 (4 * x2)) + 3))) ∧ (m15 226 (zu_w32 ((zu_w32 (4 * x2)) + 3))) ≤ 1 := zi_rdr (m := 4) (r0 := 3) (r1 := 3) hIm15 zq_226 (by omega) (by decide +kernel)
              refine zw_ite (fun h31 => ?_) (fun h31 => ?_)
              · refine zw_ite (fun h32 => ?_) (fun h32 => ?_)
                · exfalso; omega
                · refine zw_b (by omega) ?_
                  exact zw_some ⟨hIm15, hFm15, ⟨by omega, by omega⟩⟩
              · refine zw_ite (fun h33 => ?_) (fun h33 => ?_)
                · have w34 := zu_w32_id (z := x2 + 1) (by omega) (by omega)
                  have hM : (24 - (zu_w32 (x2 + 1))) * 1 + 0 < (k : Int) := by omega
                  exact zw_le (zu_forget (zu_lr_same (zu_lr_same (zu_lr_same (zu_lr_drop zu_lr_nil))))) (ih (zu_w32 (x2 + 1)) m15 hIm15 hFm15 ⟨by omega, by omega⟩ ⟨by omega, by omega⟩ hM)
                · exfalso; omega
          · have w35 := zu_w32_id (z := x2 + 1) (by omega) (by omega)
            have hM : (24 - (zu_w32 (x2 + 1))) * 1 + 0 < (k : Int) := by omega
            exact ih (zu_w32 (x2 + 1)) mh hImh hFmh ⟨by omega, by omega⟩ ⟨by omega, by omega⟩ hM
    · have r36 : 0 ≤ (mh a0 77) ∧ (mh a0 77) ≤ 24 := zi_rd hImh hc0 zb_28_77
      refine zw_some ?_
      refine zw_ite (fun h37 => ?_) (fun h37 => ?_)
      · refine zw_b (by omega) ?_
        exact zw_some ⟨hImh, hFmh, ⟨by omega, by omega⟩⟩
      · have b38 : 0 ≤ x2 ∧ x2 < 24 := by omega
        refine zw_if b38 ?_
        have r39 : 0 ≤ (mh 227 x2) ∧ (mh 227 x2) ≤ 1 := zi_rd hImh zq_227 (zb_136 _)
        refine zw_ite (fun h40 => ?_) (fun h40 => ?_)
        · have w41 := zu_w32_id (z := x2 + 1) (by omega) (by omega)
          have hM : (24 - (zu_w32 (x2 + 1))) * 1 + 0 < (k : Int) := by omega
          exact ih (zu_w32 (x2 + 1)) mh hImh hFmh ⟨by omega, by omega⟩ ⟨by omega, by omega⟩ hM
        · have w42 := zu_w32_id (z := 4 * x2) (by omega) (by omega)
          have b43 : 0 ≤ (zu_w32 (4 * x2)) ∧ (zu_w32 (4 * x2)) < 96 := by omega
          refine zw_if b43 ?_
          have r44 : (-1) ≤ (mh 226 (zu_w32 (4 * x2))) ∧ (mh 226 (zu_w32 (4 * x2))) ≤ 200 := zi_rdr (m := 4) (r0 := 0) (r1 := 0) hImh zq_226 (by omega) (by decide +kernel)
          refine zw_ite (fun h45 => ?_) (fun h45 => ?_)
          · have w46 := zu_w32_id (z := (zu_w32 (4 * x2)) + 1) (by omega) (by omega)
            have b47 : 0 ≤ (zu_w32 ((zu_w32 (4 * x2)) + 1)) ∧ (zu_w32 ((zu_w32 (4 * x2)) + 1)) < 96 := by omega
            refine zw_if b47 ?_
            have r48 : 0 ≤ (mh 226 (zu_w32 ((zu_w32 (4 * x2)) + 1))) ∧ (mh 226 (zu_w32 ((zu_w32 (4 * x2)) + 1))) ≤ 23 := zi_rdr (m := 4) (r0 := 1) (r1 := 1) hImh zq_226 (by omega) (by decide +kernel)
            refine zw_bd (zw_mono (zk_130 n hImh hc0 ⟨by omega, by omega⟩ ⟨by omega, by omega⟩) (fun v50 m49 hqm49 => ?_))
            obtain ⟨hIm49, hfm49, hvm49⟩ := hqm49
            have hFm49 := zfr_tr hFmh hfm49 rfl
            have w51 := zu_w32_id (z := (zu_w32 (4 * x2)) + 2) (by omega) (by omega)
            have b52 : 0 ≤ (zu_w32 ((zu_w32 (4 * x2)) + 2)) ∧ (zu_w32 ((zu_w32 (4 * x2)) + 2)) < 96 := by omega
            refine zw_if b52 ?_
            have r53 : 0 ≤ (m49 226 (zu_w32 ((zu_w32 (4 * x2)) + 2))) ∧ (m49 226 (zu_w32 ((zu_w32 (4 * x2)) + 2))) ≤ 16 := zi_rdr (m := 4) (r0 := 2) (r1 := 2) hIm49 zq_226 (by omega) (by decide +kernel)
            refine zw_ite (fun h54 => ?_) (fun h54 => ?_)
            · have w55 := zu_w32_id (z := (zu_w32 (4 * x2)) + 3) (by omega) (by omega)
              have b56 : 0 ≤ (zu_w32 ((zu_w32 (4 * x2)) + 3)) ∧ (zu_w32 ((zu_w32 (4 * x2)) + 3)) < 96 := by omega
              refine zw_if b56 ?_
              have r57 : 0 ≤ (m49 226 (zu_w32 ((zu_w32 (4 * x2)) + 3))) ∧ (m49 226 (zu_w32 ((zu_w32 (4 * x2)) + 3))) ≤ 1 := zi_rdr (m := 4) (r0 := 3) (r1 := 3) hIm49 zq_226 (by omega) (by decide +kernel)
              refine zw_ite (fun h58 => ?_) (fun h58 => ?_)
              · refine zw_ite (fun h59 => ?_) (fun h59 => ?_)
                · have w60 := zu_w32_id (z := x2 + 1) (by omega) (by omega)
                  have hM : (24 - (zu_w32 (x2 + 1))) * 1 + 0 < (k : Int) := by omega
                  exact zw_le (zu_forget (zu_lr_same (zu_lr_same (zu_lr_same (zu_lr_drop zu_lr_nil))))) (ih (zu_w32 (x2 + 1)) m49 hIm49 hFm49 ⟨by omega, by omega⟩ ⟨by omega, by omega⟩ hM)
                · exfalso; omega
              · refine zw_ite (fun h61 => ?_) (fun h61 => ?_)
                · exfalso; omega
                · refine zw_b (by omega) ?_
                  exact zw_some ⟨hIm49, hFm49, ⟨by omega, by omega⟩⟩
            · have w62 := zu_w32_id (z := (zu_w32 (4 * x2)) + 3) (by omega) (by omega)
              have b63 : 0 ≤ (zu_w32 ((zu_w32 (4 * x2)) + 3)) ∧ (zu_w32 ((zu_w32 (4 * x2)) + 3)) < 96 := by omega
              refine zw_if b63 ?_
              have r64 : 0 ≤ (m49 226 (zu_w32 ((zu_w32 (4 * x2)) + 3))) ∧ (m49 226 (zu_w32 ((zu_w32 (4 * x2)) + 3))) ≤ 1 := zi_rdr (m := 4) (r0 := 3) (r1 := 3) hIm49 zq_226 (by omega) (by decide +kernel)
              refine zw_ite (fun h65 => ?_) (fun h65 => ?_)
              · refine zw_ite (fun h66 => ?_) (fun h66 => ?_)
                · exfalso; omega
                · refine zw_b (by omega) ?_
                  exact zw_some ⟨hIm49, hFm49, ⟨by omega, by omega⟩⟩
              · refine zw_ite (fun h67 => ?_) (fun h67 => ?_)
                · have w68 := zu_w32_id (z := x2 + 1) (by omega) (by omega)
                  have hM : (24 - (zu_w32 (x2 + 1))) * 1 + 0 < (k : Int) := by omega
                  exact zw_le (zu_forget (zu_lr_same (zu_lr_same (zu_lr_same (zu_lr_drop zu_lr_nil))))) (ih (zu_w32 (x2 + 1)) m49 hIm49 hFm49 ⟨by omega, by omega⟩ ⟨by omega, by omega⟩ hM)
                · exfalso; omega
          · have w69 := zu_w32_id (z := x2 + 1) (by omega) (by omega)
            have hM : (24 - (zu_w32 (x2 + 1))) * 1 + 0 < (k : Int) := by omega
            exact ih (zu_w32 (x2 + 1)) mh hImh hFmh ⟨by omega, by omega⟩ ⟨by omega, by omega⟩ hM
set_option maxHeartbeats 4000000 in
theorem zk_183 (n : Nat) {a0 a1 : Int} {m0 : zu_m} (hIm0 : zi_I m0) (hc0 : zcls a0 = 28) (ha1 : 1 ≤ a1 ∧ a1 ≤ 200)     : zw (zu_call (zt_T n) 183 [(40, a0), (0, a1)] m0) (fun v m => zi_I m ∧ zfr [] m0 m ∧ (0 ≤ v ∧ v ≤ 1)) := by
  have hFm0 : zfr [] m0 m0 := zfr_rf _ _
  refine zw_eq (zr_183_0 n a0 a1 m0) ?_
  have hM : (24 - 0) * 1 + 0 < ((25 : Nat) : Int) := by omega
  exact (zl_183 n (m0 := m0) hc0 25) 0 m0 hIm0 hFm0 ⟨by omega, by omega⟩ ⟨by omega, by omega⟩ hM
set_option maxHeartbeats 4000000 in
theorem zl_190 (n : Nat) {a0 : Int} {m0 : zu_m} (hc0 : zcls a0 = 28)  : ∀ k : Nat, (∀ (x1 : Int) (mh : zu_m), zi_I mh → zfr [(28, 82), (137, 0)] m0 mh → (0 ≤ x1 ∧ x1 ≤ 439) → (20 ≤ mh a0 81 ∧ mh a0 81 ≤ 20) → (439 - x1) * 1 + 0 < (k : Int) → zw (zu_ex (zt_T n) 190 11 [(40, a0), (0, x1)] [] mh) (fun v m => zi_I m ∧ zfr [(28, 82), (137, 0)] m0 m ∧ True ∧ (1 ≤ m a0 81 ∧ m a0 81 ≤ 20))) := by
  intro k
  induction k with
  | zero => exact fun x1 mh hImh hFmh hbx1 hg1 hM => by exfalso; omega
  | succ k ih =>
    intro x1 mh hImh hFmh hbx1 hg1 hM
    refine zw_eq (zr_190_11 n a0 x1 mh) ?_
    refine zw_ite (fun h1 => ?_) (fun h1 => ?_)
    · have w2 := zu_w32_id (z := (mh a0 81) - 1) (by omega) (by omega)
      generalize hmm3 : zu_up mh a0 81 (zu_w32 ((mh a0 81) - 1)) = m3
      have hIm3 := zi_up hmm3 hImh hc0 zb_28_81 (by omega) (by omega)
      have hFm3 := zfr_up hmm3 hFmh hc0 rfl
      have r4 : 0 ≤ (m3 a0 81) ∧ (m3 a0 81) ≤ 20 := zi_rd hIm3 hc0 zb_28_81
      have e5 : (m3 a0 81) = (zu_w32 ((mh a0 81) - 1)) := (zs_eq hmm3)
      have w6 := zu_w32_id (z := 22 * (m3 a0 81)) (by omega) (by omega)
      refine zw_bd (zw_mono (zk_188_28_137 n hIm3 hc0 zq_228 ⟨by omega, by omega⟩ (by omega)) (fun v8 m7 hqm7 => ?_))
      obtain ⟨hIm7, hfm7, hvm7⟩ := hqm7
      have hFm7 := zfr_tr hFm3 hfm7 rfl
      have r9 : 0 ≤ (m7 a0 81) ∧ (m7 a0 81) ≤ 20 := zi_rd hIm7 hc0 zb_28_81
      have e10 : (m7 a0 81) = (m3 a0 81) := (zfr_ap hfm7 hc0 rfl)
      have w11 := zu_w32_id (z := (m7 a0 81) + 1) (by omega) (by omega)
      generalize hmm12 : zu_up m7 a0 81 (zu_w32 ((m7 a0 81) + 1)) = m12
      have hIm12 := zi_up hmm12 hIm7 hc0 zb_28_81 (by omega) (by omega)
      have hFm12 := zfr_up hmm12 hFm7 hc0 rfl
      have r13 : 0 ≤ (m12 a0 81) ∧ (m12 a0 81) ≤ 20 := zi_rd hIm12 hc0 zb_28_81
      have e14 : (m12 a0 81) = (zu_w32 ((m7 a0 81) + 1)) := (zs_eq hmm12)
      exact zw_some ⟨hIm12, hFm12, trivial, ⟨by omega, by omega⟩⟩
    · have w15 := zu_w32_id (z := x1 + 22) (by omega) (by omega)
      have b16 : 0 ≤ (zu_w32 (x1 + 22)) ∧ (zu_w32 (x1 + 22)) < 440 := by omega
      refine zw_if b16 ?_
      have r17 : (-2147483648) ≤ (mh 228 (zu_w32 (x1 + 22))) ∧ (mh 228 (zu_w32 (x1 + 22))) ≤ 2147483647 := zi_rdr (m := 22) (r0 := 0) (r1 := 21) hImh zq_228 (by omega) (by decide +kernel)
      have b18 : 0 ≤ x1 ∧ x1 < 440 := by omega
      refine zw_if b18 ?_
      generalize hmm19 : zu_up mh 228 x1 (mh 228 (zu_w32 (x1 + 22))) = m19
      have hIm19 := zi_upm (m := 22) (q := (zu_w32 (x1 + 22))) hmm19 hImh zq_228 (by decide +kernel) (by omega) rfl
      have hFm19 := zfr_up hmm19 hFmh zq_228 rfl
      have w20 := zu_w32_id (z := x1 + 1) (by omega) (by omega)
      have r21 : 0 ≤ (m19 a0 81) ∧ (m19 a0 81) ≤ 20 := zi_rd hIm19 hc0 zb_28_81
      have e22 : (m19 a0 81) = (mh a0 81) := (zs_ne hmm19 (Or.inl (zc_ne hc0 zq_228 (by decide))))
      have hM : (439 - (zu_w32 (x1 + 1))) * 1 + 0 < (k : Int) := by omega
      exact ih (zu_w32 (x1 + 1)) m19 hIm19 hFm19 ⟨by omega, by omega⟩ ⟨by omega, by omega⟩ hM
set_option maxHeartbeats 4000000 in
theorem zk_190 (n : Nat) {a0 : Int} {m0 : zu_m} (hIm0 : zi_I m0) (hc0 : zcls a0 = 28)      : zw (zu_call (zt_T n) 190 [(40, a0)] m0) (fun v m => zi_I m ∧ zfr [(28, 82), (137, 0)] m0 m ∧ True ∧ (1 ≤ m a0 81 ∧ m a0 81 ≤ 20)) := by
  have hFm0 : zfr [(28, 82), (137, 0)] m0 m0 := zfr_rf _ _
  refine zw_eq (zr_190_0 n a0 m0) ?_
  have r23 : 0 ≤ (m0 a0 81) ∧ (m0 a0 81) ≤ 20 := zi_rd hIm0 hc0 zb_28_81
  refine zw_ite (fun h24 => ?_) (fun h24 => ?_)
  · have w25 := zu_w32_id (z := 22 * (m0 a0 81)) (by omega) (by omega)
    refine zw_bd (zw_mono (zk_188_28_137 n hIm0 hc0 zq_228 ⟨by omega, by omega⟩ (by omega)) (fun v27 m26 hqm26 => ?_))
    obtain ⟨hIm26, hfm26, hvm26⟩ := hqm26
    have hFm26 := zfr_tr hFm0 hfm26 rfl
    have r28 : 0 ≤ (m26 a0 81) ∧ (m26 a0 81) ≤ 20 := zi_rd hIm26 hc0 zb_28_81
    have e29 : (m26 a0 81) = (m0 a0 81) := (zfr_ap hfm26 hc0 rfl)
    have w30 := zu_w32_id (z := (m26 a0 81) + 1) (by omega) (by omega)
    generalize hmm31 : zu_up m26 a0 81 (zu_w32 ((m26 a0 81) + 1)) = m31
    have hIm31 := zi_up hmm31 hIm26 hc0 zb_28_81 (by omega) (by omega)
    have hFm31 := zfr_up hmm31 hFm26 hc0 rfl
    have r32 : 0 ≤ (m31 a0 81) ∧ (m31 a0 81) ≤ 20 := zi_rd hIm31 hc0 zb_28_81
    have e33 : (m31 a0 81) = (zu_w32 ((m26 a0 81) + 1)) := (zs_eq hmm31)
    exact zw_some ⟨hIm31, hFm31, trivial, ⟨by omega, by omega⟩⟩
  · have hM : (439 - 0) * 1 + 0 < ((440 : Nat) : Int) := by omega
    exact (zl_190 n (m0 := m0) hc0 440) 0 m0 hIm0 hFm0 ⟨by omega, by omega⟩ ⟨by omega, by omega⟩ hM
set_option maxHeartbeats 4000000 in
theorem zl_191 (n : Nat) {a0 : Int} {m0 : zu_m} (hc0 : zcls a0 = 28)  : ∀ k : Nat, (∀ (x1 x2 : Int) (mh : zu_m), zi_I mh → zfr [(28, 3), (28, 63), (28, 82), (106, 0), (107, 0), (108, 0), (124, 0), (125, 0), (126, 0)] m0 mh → (0 ≤ x1 ∧ x1 ≤ 16) → (0 ≤ x2 ∧ x2 ≤ 16) → (0 ≤ mh a0 2 ∧ mh a0 2 ≤ 0) → (0 ≤ mh a0 81 ∧ mh a0 81 ≤ 19) → (16 - x2) * 1 + 0 < (k : Int) → zw (zu_ex (zt_T n) 191 48 [(40, a0), (0, x1), (0, x2)] [] mh) (fun v m => zi_I m ∧ zfr [(28, 3), (28, 63), (28, 82), (106, 0), (107, 0), (108, 0), (124, 0), (125, 0), (126, 0)] m0 m ∧ ((-1) ≤ v ∧ v ≤ 20) ∧ (0 ≤ m a0 2 ∧ m a0 2 ≤ 0))) := by
  intro k
  induction k with
  | zero => exact fun x1 x2 mh hImh hFmh hbx1 hbx2 hg2 hg3 hM => by exfalso; omega
  | succ k ih =>
    intro x1 x2 mh hImh hFmh hbx1 hbx2 hg2 hg3 hM
    refine zw_eq (zr_191_48 n a0 x1 x2 mh) ?_
    have b1 : 0 ≤ (0 : Int) ∧ (0 : Int) < 2 := by omega
    refine zw_if b1 ?_
    have r2 : 0 ≤ (mh 216 0) ∧ (mh 216 0) ≤ 16 := zi_rdr (m := 2) (r0 := 0) (r1 := 0) hImh zq_216 (by omega) (by decide +kernel)
    refine zw_ite (fun h3 => ?_) (fun h3 => ?_)
    · exact zw_some ⟨hImh, hFmh, ⟨by omega, by omega⟩, ⟨by omega, by omega⟩⟩
    · have b4 : 0 ≤ x2 ∧ x2 < 36 := by omega
      refine zw_if b4 ?_
      generalize hmm5 : zu_up mh 215 x2 (-1) = m5
      have hIm5 := zi_up hmm5 hImh zq_215 (zb_124 _) (by omega) (by omega)
      have hFm5 := zfr_up hmm5 hFmh zq_215 rfl
      have w6 := zu_w32_id (z := x2 + 1) (by omega) (by omega)
      have r7 : (-2147483648) ≤ (m5 a0 2) ∧ (m5 a0 2) ≤ 2147483647 := zi_rd hIm5 hc0 zb_28_2
      have e8 : (m5 a0 2) = (mh a0 2) := (zs_ne hmm5 (Or.inl (zc_ne hc0 zq_215 (by decide))))
      have r9 : 0 ≤ (m5 a0 81) ∧ (m5 a0 81) ≤ 20 := zi_rd hIm5 hc0 zb_28_81
      have e10 : (m5 a0 81) = (mh a0 81) := (zs_ne hmm5 (Or.inl (zc_ne hc0 zq_215 (by decide))))
      have hM : (16 - (zu_w32 (x2 + 1))) * 1 + 0 < (k : Int) := by omega
      exact ih x1 (zu_w32 (x2 + 1)) m5 hIm5 hFm5 ⟨by omega, by omega⟩ ⟨by omega, by omega⟩ ⟨by omega, by omega⟩ ⟨by omega, by omega⟩ hM
set_option maxHeartbeats 4000000 in
theorem zk_191 (n : Nat) {a0 : Int} {m0 : zu_m} (hIm0 : zi_I m0) (hc0 : zcls a0 = 28)      : zw (zu_call (zt_T n) 191 [(40, a0)] m0) (fun v m => zi_I m ∧ zfr [(28, 3), (28, 63), (28, 82), (106, 0), (107, 0), (108, 0), (124, 0), (125, 0), (126, 0)] m0 m ∧ ((-1) ≤ v ∧ v ≤ 20) ∧ (0 ≤ m a0 2 ∧ m a0 2 ≤ 0)) := by
  have hFm0 : zfr [(28, 3), (28, 63), (28, 82), (106, 0), (107, 0), (108, 0), (124, 0), (125, 0), (126, 0)] m0 m0 := zfr_rf _ _
  refine zw_eq (zr_191_0 n a0 m0) ?_
  generalize hmm11 : zu_up m0 a0 2 0 = m11
  have hIm11 := zi_up hmm11 hIm0 hc0 zb_28_2 (by omega) (by omega)
  have hFm11 := zfr_up hmm11 hFm0 hc0 rfl
  have r12 : 0 ≤ (m11 a0 81) ∧ (m11 a0 81) ≤ 20 := zi_rd hIm11 hc0 zb_28_81
  refine zw_ite (fun h13 => ?_) (fun h13 => ?_)
  · have w14 := zu_w32_id (z := (m11 a0 81) - 1) (by omega) (by omega)
    generalize hmm15 : zu_up m11 a0 81 (zu_w32 ((m11 a0 81) - 1)) = m15
    have hIm15 := zi_up hmm15 hIm11 hc0 zb_28_81 (by omega) (by omega)
    have hFm15 := zfr_up hmm15 hFm11 hc0 rfl
    have b16 : 0 ≤ (0 : Int) ∧ (0 : Int) < 2 := by omega
    refine zw_if b16 ?_
    have r17 : 0 ≤ (m15 216 0) ∧ (m15 216 0) ≤ 16 := zi_rdr (m := 2) (r0 := 0) (r1 := 0) hIm15 zq_216 (by omega) (by decide +kernel)
    have r18 : 0 ≤ (m15 a0 81) ∧ (m15 a0 81) ≤ 20 := zi_rd hIm15 hc0 zb_28_81
    have e19 : (m15 a0 81) = (zu_w32 ((m11 a0 81) - 1)) := (zs_eq hmm15)
    have w20 := zu_w32_id (z := 22 * (m15 a0 81)) (by omega) (by omega)
    refine zw_bd (zw_mono (zk_189_28_137 n hIm15 hc0 zq_228 ⟨by omega, by omega⟩ (by omega)) (fun v22 m21 hqm21 => ?_))
    obtain ⟨hIm21, hfm21, hvm21⟩ := hqm21
    have hFm21 := zfr_tr hFm15 hfm21 rfl
    have r23 : (-2147483648) ≤ (m21 a0 2) ∧ (m21 a0 2) ≤ 2147483647 := zi_rd hIm21 hc0 zb_28_2
    have e24 : (m21 a0 2) = 0 := (Eq.trans (zfr_ap hfm21 hc0 rfl) (Eq.trans (zs_ne hmm15 (Or.inr (by decide))) (zs_eq hmm11)))
    have r25 : 0 ≤ (m21 a0 81) ∧ (m21 a0 81) ≤ 20 := zi_rd hIm21 hc0 zb_28_81
    have e26 : (m21 a0 81) = (m15 a0 81) := (zfr_ap hfm21 hc0 rfl)
    have hM : (16 - (m15 216 0)) * 1 + 0 < ((17 : Nat) : Int) := by omega
    exact (zl_191 n (m0 := m0) hc0 17) (m15 216 0) (m15 216 0) m21 hIm21 hFm21 ⟨by omega, by omega⟩ ⟨by omega, by omega⟩ ⟨by omega, by omega⟩ ⟨by omega, by omega⟩ hM
  · have r27 : (-2147483648) ≤ (m11 a0 2) ∧ (m11 a0 2) ≤ 2147483647 := zi_rd hIm11 hc0 zb_28_2
    have e28 : (m11 a0 2) = 0 := (zs_eq hmm11)
    exact zw_some ⟨hIm11, hFm11, ⟨by omega, by omega⟩, ⟨by omega, by omega⟩⟩
set_option maxHeartbeats 4000000 in
theorem zl_192 (n : Nat) {a0 : Int} {m0 : zu_m} (hc0 : zcls a0 = 28)  : ∀ k : Nat, (∀ (x1 : Int) (mh : zu_m), zi_I mh → zfr [(28, 3), (28, 84), (28, 89), (28, 90), (28, 91), (138, 0), (139, 0), (140, 0), (141, 0)] m0 mh → (0 ≤ x1 ∧ x1 ≤ 16) → (0 ≤ mh a0 2 ∧ mh a0 2 ≤ 0) → (1 ≤ mh a0 83 ∧ mh a0 83 ≤ 1) → (16 - x1) * 1 + 54 < (k : Int) → zw (zu_ex (zt_T n) 192 21 [(40, a0), (0, x1)] [] mh) (fun v m => zi_I m ∧ zfr [(28, 3), (28, 84), (28, 89), (28, 90), (28, 91), (138, 0), (139, 0), (140, 0), (141, 0)] m0 m ∧ ((-2147483648) ≤ v ∧ v ≤ 2147483647) ∧ (0 ≤ m a0 2 ∧ m a0 2 ≤ 0) ∧ (1 ≤ m a0 83 ∧ m a0 83 ≤ 1))) ∧ (∀ (x1 : Int) (mh : zu_m), zi_I mh → zfr [(28, 3), (28, 84), (28, 89), (28, 90), (28, 91), (138, 0), (139, 0), (140, 0), (141, 0)] m0 mh → (0 ≤ x1 ∧ x1 ≤ 4) → (0 ≤ mh a0 2 ∧ mh a0 2 ≤ 0) → (1 ≤ mh a0 83 ∧ mh a0 83 ≤ 1) → (4 - x1) * 1 + 49 < (k : Int) → zw (zu_ex (zt_T n) 192 47 [(40, a0), (0, x1)] [] mh) (fun v m => zi_I m ∧ zfr [(28, 3), (28, 84), (28, 89), (28, 90), (28, 91), (138, 0), (139, 0), (140, 0), (141, 0)] m0 m ∧ ((-2147483648) ≤ v ∧ v ≤ 2147483647) ∧ (0 ≤ m a0 2 ∧ m a0 2 ≤ 0) ∧ (1 ≤ m a0 83 ∧ m a0 83 ≤ 1))) ∧ (∀ (x1 : Int) (mh : zu_m), zi_I mh → zfr [(28, 3), (28, 84), (28, 89), (28, 90), (28, 91), (138, 0), (139, 0), (140, 0), (141, 0)] m0 mh → (0 ≤ x1 ∧ x1 ≤ 48) → (0 ≤ mh a0 2 ∧ mh a0 2 ≤ 0) → (1 ≤ mh a0 83 ∧ mh a0 83 ≤ 1) → (48 - x1) * 1 + 0 < (k : Int) → zw (zu_ex (zt_T n) 192 72 [(40, a0), (0, x1)] [] mh) (fun v m => zi_I m ∧ zfr [(28, 3), (28, 84), (28, 89), (28, 90), (28, 91), (138, 0), (139, 0), (140, 0), (141, 0)] m0 m ∧ ((-2147483648) ≤ v ∧ v ≤ 2147483647) ∧ (0 ≤ m a0 2 ∧ m a0 2 ≤ 0) ∧ (1 ≤ m a0 83 ∧ m a0 83 ≤ 1))) := by
  intro k
  induction k with
  | zero => exact ⟨fun x1 mh hImh hFmh hbx1 hg1 hg2 hM => by exfalso; omega, fun x1 mh hImh hFmh hbx1 hg1 hg2 hM => by exfalso; omega, fun x1 mh hImh hFmh hbx1 hg1 hg2 hM => by exfalso; omega⟩
  | succ k ih =>
    refine ⟨?_, ?_, ?_⟩
    · intro x1 mh hImh hFmh hbx1 hg1 hg2 hM
      refine zw_eq (zr_192_21 n a0 x1 mh) ?_
      refine zw_ite (fun h1 => ?_) (fun h1 => ?_)
      · have hM : (4 - 0) * 1 + 49 < (k : Int) := by omega
        exact ih.2.1 0 mh hImh hFmh ⟨by omega, by omega⟩ ⟨by omega, by omega⟩ ⟨by omega, by omega⟩ hM
      · have b2 : 0 ≤ x1 ∧ x1 < 36 := by omega
        refine zw_if b2 ?_
        have r3 : (-3) ≤ (mh 215 x1) ∧ (mh 215 x1) ≤ 3 := zi_rd hImh zq_215 (zb_124 _)
        have b4 : 0 ≤ x1 ∧ x1 < 16 := by omega
        refine zw_if b4 ?_
        generalize hmm5 : zu_up mh 230 x1 (mh 215 x1) = m5
        have hIm5 := zi_up hmm5 hImh zq_230 (zb_139 _) (by omega) (by omega)
        have hFm5 := zfr_up hmm5 hFmh zq_230 rfl
        have w6 := zu_w32_id (z := x1 + 1) (by omega) (by omega)
        have r7 : (-2147483648) ≤ (m5 a0 2) ∧ (m5 a0 2) ≤ 2147483647 := zi_rd hIm5 hc0 zb_28_2
        have e8 : (m5 a0 2) = (mh a0 2) := (zs_ne hmm5 (Or.inl (zc_ne hc0 zq_230 (by decide))))
        have r9 : 0 ≤ (m5 a0 83) ∧ (m5 a0 83) ≤ 1 := zi_rd hIm5 hc0 zb_28_83
        have e10 : (m5 a0 83) = (mh a0 83) := (zs_ne hmm5 (Or.inl (zc_ne hc0 zq_230 (by decide))))
        have hM : (16 - (zu_w32 (x1 + 1))) * 1 + 54 < (k : Int) := by omega
        exact ih.1 (zu_w32 (x1 + 1)) m5 hIm5 hFm5 ⟨by omega, by omega⟩ ⟨by omega, by omega⟩ ⟨by omega, by omega⟩ hM
    · intro x1 mh hImh hFmh hbx1 hg1 hg2 hM
      refine zw_eq (zr_192_47 n a0 x1 mh) ?_
      refine zw_ite (fun h11 => ?_) (fun h11 => ?_)
      · have hM : (48 - 0) * 1 + 0 < (k : Int) := by omega
        exact ih.2.2 0 mh hImh hFmh ⟨by omega, by omega⟩ ⟨by omega, by omega⟩ ⟨by omega, by omega⟩ hM
      · have b12 : 0 ≤ x1 ∧ x1 < 4 := by omega
        refine zw_if b12 ?_
        have r13 : (-2147483648) ≤ (mh 219 x1) ∧ (mh 219 x1) ≤ 2147483647 := zi_rd hImh zq_219 (zb_128 _)
        have b14 : 0 ≤ x1 ∧ x1 < 4 := by omega
        refine zw_if b14 ?_
        generalize hmm15 : zu_up mh 231 x1 (mh 219 x1) = m15
        have hIm15 := zi_up hmm15 hImh zq_231 (zb_140 _) (by omega) (by omega)
        have hFm15 := zfr_up hmm15 hFmh zq_231 rfl
        have w16 := zu_w32_id (z := x1 + 1) (by omega) (by omega)
        have r17 : (-2147483648) ≤ (m15 a0 2) ∧ (m15 a0 2) ≤ 2147483647 := zi_rd hIm15 hc0 zb_28_2
        have e18 : (m15 a0 2) = (mh a0 2) := (zs_ne hmm15 (Or.inl (zc_ne hc0 zq_231 (by decide))))
        have r19 : 0 ≤ (m15 a0 83) ∧ (m15 a0 83) ≤ 1 := zi_rd hIm15 hc0 zb_28_83
        have e20 : (m15 a0 83) = (mh a0 83) := (zs_ne hmm15 (Or.inl (zc_ne hc0 zq_231 (by decide))))
        have hM : (4 - (zu_w32 (x1 + 1))) * 1 + 49 < (k : Int) := by omega
        exact ih.2.1 (zu_w32 (x1 + 1)) m15 hIm15 hFm15 ⟨by omega, by omega⟩ ⟨by omega, by omega⟩ ⟨by omega, by omega⟩ hM
    · intro x1 mh hImh hFmh hbx1 hg1 hg2 hM
      refine zw_eq (zr_192_72 n a0 x1 mh) ?_
      refine zw_ite (fun h21 => ?_) (fun h21 => ?_)
      · have b22 : 0 ≤ (0 : Int) ∧ (0 : Int) < 2 := by omega
        refine zw_if b22 ?_
        have r23 : (-9223372036854775808) ≤ (mh 220 0) ∧ (mh 220 0) ≤ 9223372036854775807 := zi_rd hImh zq_220 (zb_129 _)
        generalize hmm24 : zu_up mh a0 88 (mh 220 0) = m24
        have hIm24 := zi_up hmm24 hImh hc0 zb_28_88 (by omega) (by omega)
        have hFm24 := zfr_up hmm24 hFmh hc0 rfl
        have b25 : 0 ≤ (0 : Int) ∧ (0 : Int) < 2 := by omega
        refine zw_if b25 ?_
        have r26 : (-2147483648) ≤ (m24 221 0) ∧ (m24 221 0) ≤ 2147483647 := zi_rd hIm24 zq_221 (zb_130 _)
        generalize hmm27 : zu_up m24 a0 89 (m24 221 0) = m27
        have hIm27 := zi_up hmm27 hIm24 hc0 zb_28_89 (by omega) (by omega)
        have hFm27 := zfr_up hmm27 hFm24 hc0 rfl
        have r28 : (-9223372036854775808) ≤ (m27 a0 63) ∧ (m27 a0 63) ≤ 9223372036854775807 := zi_rd hIm27 hc0 zb_28_63
        generalize hmm29 : zu_up m27 a0 90 (m27 a0 63) = m29
        have hIm29 := zi_up hmm29 hIm27 hc0 zb_28_90 (by omega) (by omega)
        have hFm29 := zfr_up hmm29 hFm27 hc0 rfl
        have b30 : 0 ≤ (0 : Int) ∧ (0 : Int) < 2 := by omega
        refine zw_if b30 ?_
        have r31 : (-2147483648) ≤ (m29 221 0) ∧ (m29 221 0) ≤ 2147483647 := zi_rd hIm29 zq_221 (zb_130 _)
        have e32 : (m29 221 0) = (m24 221 0) := (Eq.trans (zs_ne hmm29 (Or.inl (zc_ne zq_221 hc0 (by decide)))) (zs_ne hmm27 (Or.inl (zc_ne zq_221 hc0 (by decide)))))
        have r33 : (-2147483648) ≤ (m29 a0 2) ∧ (m29 a0 2) ≤ 2147483647 := zi_rd hIm29 hc0 zb_28_2
        have e34 : (m29 a0 2) = (mh a0 2) := (Eq.trans (zs_ne hmm29 (Or.inr (by decide))) (Eq.trans (zs_ne hmm27 (Or.inr (by decide))) (zs_ne hmm24 (Or.inr (by decide)))))
        have r35 : 0 ≤ (m29 a0 83) ∧ (m29 a0 83) ≤ 1 := zi_rd hIm29 hc0 zb_28_83
        have e36 : (m29 a0 83) = (mh a0 83) := (Eq.trans (zs_ne hmm29 (Or.inr (by decide))) (Eq.trans (zs_ne hmm27 (Or.inr (by decide))) (zs_ne hmm24 (Or.inr (by decide)))))
        exact zw_some ⟨hIm29, hFm29, ⟨by omega, by omega⟩, ⟨by omega, by omega⟩, ⟨by omega, by omega⟩⟩
      · have b37 : 0 ≤ x1 ∧ x1 < 48 := by omega
        refine zw_if b37 ?_
        have r38 : (-2147483648) ≤ (mh 222 x1) ∧ (mh 222 x1) ≤ 2147483647 := zi_rd hImh zq_222 (zb_131 _)
        have b39 : 0 ≤ x1 ∧ x1 < 48 := by omega
        refine zw_if b39 ?_
        generalize hmm40 : zu_up mh 232 x1 (mh 222 x1) = m40
        have hIm40 := zi_up hmm40 hImh zq_232 (zb_141 _) (by omega) (by omega)
        have hFm40 := zfr_up hmm40 hFmh zq_232 rfl
        have w41 := zu_w32_id (z := x1 + 1) (by omega) (by omega)
        have r42 : (-2147483648) ≤ (m40 a0 2) ∧ (m40 a0 2) ≤ 2147483647 := zi_rd hIm40 hc0 zb_28_2
        have e43 : (m40 a0 2) = (mh a0 2) := (zs_ne hmm40 (Or.inl (zc_ne hc0 zq_232 (by decide))))
        have r44 : 0 ≤ (m40 a0 83) ∧ (m40 a0 83) ≤ 1 := zi_rd hIm40 hc0 zb_28_83
        have e45 : (m40 a0 83) = (mh a0 83) := (zs_ne hmm40 (Or.inl (zc_ne hc0 zq_232 (by decide))))
        have hM : (48 - (zu_w32 (x1 + 1))) * 1 + 0 < (k : Int) := by omega
        exact ih.2.2 (zu_w32 (x1 + 1)) m40 hIm40 hFm40 ⟨by omega, by omega⟩ ⟨by omega, by omega⟩ ⟨by omega, by omega⟩ hM
set_option maxHeartbeats 4000000 in
theorem zk_192 (n : Nat) {a0 : Int} {m0 : zu_m} (hIm0 : zi_I m0) (hc0 : zcls a0 = 28)      : zw (zu_call (zt_T n) 192 [(40, a0)] m0) (fun v m => zi_I m ∧ zfr [(28, 3), (28, 84), (28, 89), (28, 90), (28, 91), (138, 0), (139, 0), (140, 0), (141, 0)] m0 m ∧ ((-2147483648) ≤ v ∧ v ≤ 2147483647) ∧ (0 ≤ m a0 2 ∧ m a0 2 ≤ 0) ∧ (1 ≤ m a0 83 ∧ m a0 83 ≤ 1)) := by
  have hFm0 : zfr [(28, 3), (28, 84), (28, 89), (28, 90), (28, 91), (138, 0), (139, 0), (140, 0), (141, 0)] m0 m0 := zfr_rf _ _
  refine zw_eq (zr_192_0 n a0 m0) ?_
  generalize hmm46 : zu_up m0 a0 2 0 = m46
  have hIm46 := zi_up hmm46 hIm0 hc0 zb_28_2 (by omega) (by omega)
  have hFm46 := zfr_up hmm46 hFm0 hc0 rfl
  refine zw_b (by omega) ?_
  generalize hmm47 : zu_up m46 a0 83 1 = m47
  have hIm47 := zi_up hmm47 hIm46 hc0 zb_28_83 (by omega) (by omega)
  have hFm47 := zfr_up hmm47 hFm46 hc0 rfl
  refine zw_bd (zw_mono (zk_188_28_138 n hIm47 hc0 zq_229 ⟨by omega, by omega⟩ (by omega)) (fun v49 m48 hqm48 => ?_))
  obtain ⟨hIm48, hfm48, hvm48⟩ := hqm48
  have hFm48 := zfr_tr hFm47 hfm48 rfl
  have r50 : (-2147483648) ≤ (m48 a0 2) ∧ (m48 a0 2) ≤ 2147483647 := zi_rd hIm48 hc0 zb_28_2
  have e51 : (m48 a0 2) = 0 := (Eq.trans (zfr_ap hfm48 hc0 rfl) (Eq.trans (zs_ne hmm47 (Or.inr (by decide))) (zs_eq hmm46)))
  have r52 : 0 ≤ (m48 a0 83) ∧ (m48 a0 83) ≤ 1 := zi_rd hIm48 hc0 zb_28_83
  have e53 : (m48 a0 83) = 1 := (Eq.trans (zfr_ap hfm48 hc0 rfl) (zs_eq hmm47))
  have hM : (16 - 0) * 1 + 54 < ((71 : Nat) : Int) := by omega
  exact (zl_192 n (m0 := m0) hc0 71).1 0 m48 hIm48 hFm48 ⟨by omega, by omega⟩ ⟨by omega, by omega⟩ ⟨by omega, by omega⟩ hM

set_option maxHeartbeats 4000000 in
theorem zl_89 (n : Nat) {a0 : Int} {m0 : zu_m} (hc0 : zcls a0 = 28)   : ∀ k : Nat, (∀ (mh : zu_m), zi_I mh → zfr [(28, 8), (28, 9), (28, 10), (28, 11)] m0 mh → ((m0 a0 7) ≤ (mh a0 7)) → (zR_NS mh) → (zR_WD mh) → (700 - (mh a0 7)) * 1 + 1402 < (k : Int) → zw (zu_ex (zt_T n) 89 0 [(40, a0)] [] mh) (fun v m => zi_I m ∧ zfr [(28, 8), (28, 9), (28, 10), (28, 11)] m0 m ∧ zR_NS m ∧ zR_WD m ∧ True ∧ ((m0 a0 7) ≤ (m a0 7)) ∧ ((m a0 8) = 0 ∨ (m0 a0 7) < (m a0 7)))) ∧ (∀ (mh : zu_m), zi_I mh → zfr [(28, 8), (28, 9), (28, 10), (28, 11)] m0 mh → (0 ≤ mh a0 10 ∧ mh a0 10 ≤ 699) → (1 ≤ mh a0 6 ∧ mh a0 6 ≤ 700) → ((m0 a0 7) ≤ (mh a0 7)) → ((mh a0 10) = (mh a0 7) → ((mh a0 7) < (mh a0 6))) → (zR_NS mh) → (zR_WD mh) → (700 - (mh a0 7)) * 1 + 701 < (k : Int) → zw (zu_ex (zt_T n) 89 90 [(40, a0)] [] mh) (fun v m => zi_I m ∧ zfr [(28, 8), (28, 9), (28, 10), (28, 11)] m0 m ∧ zR_NS m ∧ zR_WD m ∧ True ∧ ((m0 a0 7) ≤ (m a0 7)) ∧ ((m a0 8) = 0 ∨ (m0 a0 7) < (m a0 7)))) ∧ (∀ (mh : zu_m), zi_I mh → zfr [(28, 8), (28, 9), (28, 10), (28, 11)] m0 mh → (0 ≤ mh a0 10 ∧ mh a0 10 ≤ 699) → (1 ≤ mh a0 6 ∧ mh a0 6 ≤ 700) → (3 ≤ mh a0 8 ∧ mh a0 8 ≤ 3) → (0 ≤ mh a0 9 ∧ mh a0 9 ≤ 999999) → ((m0 a0 7) ≤ (mh a0 7)) → (zR_NS mh) → (zR_WD mh) → (700 - (mh a0 7)) * 1 + 0 < (k : Int) → zw (zu_ex (zt_T n) 89 213 [(40, a0)] [] mh) (fun v m => zi_I m ∧ zfr [(28, 8), (28, 9), (28, 10), (28, 11)] m0 m ∧ zR_NS m ∧ zR_WD m ∧ True ∧ ((m0 a0 7) ≤ (m a0 7)) ∧ ((m a0 8) = 0 ∨ (m0 a0 7) < (m a0 7)))) := by
  intro k
  induction k with
  | zero => exact ⟨fun mh hImh hFmh hH0 hRNSmh hRWDmh hM => by exfalso; omega, fun mh hImh hFmh hg0 hg1 hH0 hH1 hRNSmh hRWDmh hM => by exfalso; omega, fun mh hImh hFmh hg0 hg1 hg2 hg3 hH0 hRNSmh hRWDmh hM => by exfalso; omega⟩
  | succ k ih =>
    refine ⟨?_, ?_, ?_⟩
    · intro mh hImh hFmh hH0 hRNSmh hRWDmh hM
      refine zw_eq (zr_89_0 n a0 mh) ?_
      have r1 : 0 ≤ (mh a0 7) ∧ (mh a0 7) ≤ 700 := zi_rd hImh hc0 zb_28_7
      have s2 := hRNSmh a0 hc0
      have r3 : 0 ≤ (mh a0 6) ∧ (mh a0 6) ≤ 700 := zi_rd hImh hc0 zb_28_6
      refine zw_ite (fun h4 => ?_) (fun h4 => ?_)
      · generalize hmm5 : zu_up mh a0 10 (mh a0 7) = m5
        have hIm5 := zi_up hmm5 hImh hc0 zb_28_10 (by omega) (by omega)
        have hFm5 := zfr_up hmm5 hFmh hc0 rfl
        have hRNSm5 := zR_NS_fr (zdis_fr (zfr_up hmm5 (zfr_rf [(28, 11)] _) hc0 rfl) rfl) hRNSmh
        have hRWDm5 := zR_WD_fr (zdis_fr (zfr_up hmm5 (zfr_rf [(28, 11)] _) hc0 rfl) rfl) hRWDmh
        have r6 : 0 ≤ (m5 a0 7) ∧ (m5 a0 7) ≤ 700 := zi_rd hIm5 hc0 zb_28_7
        have e7 : (m5 a0 7) = (mh a0 7) := (zs_ne hmm5 (Or.inr (by decide)))
        have r8 : 0 ≤ (m5 a0 6) ∧ (m5 a0 6) ≤ 700 := zi_rd hIm5 hc0 zb_28_6
        have e9 : (m5 a0 6) = (mh a0 6) := (zs_ne hmm5 (Or.inr (by decide)))
        refine zw_ite (fun h10 => ?_) (fun h10 => ?_)
        · exfalso; omega
        · generalize hmm11 : zu_up m5 a0 8 0 = m11
          have hIm11 := zi_up hmm11 hIm5 hc0 zb_28_8 (by omega) (by omega)
          have hFm11 := zfr_up hmm11 hFm5 hc0 rfl
          have hRNSm11 := zR_NS_fr (zdis_fr (zfr_up hmm11 (zfr_rf [(28, 9)] _) hc0 rfl) rfl) hRNSm5
          have hRWDm11 := zR_WD_fr (zdis_fr (zfr_up hmm11 (zfr_rf [(28, 9)] _) hc0 rfl) rfl) hRWDm5
          have r12 : 0 ≤ (m11 a0 7) ∧ (m11 a0 7) ≤ 700 := zi_rd hIm11 hc0 zb_28_7
          have e13 : (m11 a0 7) = (m5 a0 7) := (zs_ne hmm11 (Or.inr (by decide)))
          have r14 : 0 ≤ (m11 a0 8) ∧ (m11 a0 8) ≤ 6 := zi_rd hIm11 hc0 zb_28_8
          have e15 : (m11 a0 8) = 0 := (zs_eq hmm11)
          exact zw_some ⟨hIm11, hFm11, hRNSm11, hRWDm11, trivial, by omega, by omega⟩
      · have b16 : 0 ≤ (mh a0 7) ∧ (mh a0 7) < 700 := by omega
        refine zw_if b16 ?_
        have r17 : (-2147483648) ≤ (mh 191 (mh a0 7)) ∧ (mh 191 (mh a0 7)) ≤ 2147483647 := zi_rd hImh zq_191 (zb_100 _)
        refine zw_ite (fun h18 => ?_) (fun h18 => ?_)
        · have w19 := zu_w32_id (z := (mh a0 7) + 1) (by omega) (by omega)
          generalize hmm20 : zu_up mh a0 7 (zu_w32 ((mh a0 7) + 1)) = m20
          have hIm20 := zi_up hmm20 hImh hc0 zb_28_7 (by omega) (by omega)
          have hFm20 := zfr_up hmm20 hFmh hc0 rfl
          have hRWDm20 := zR_WD_fr (zdis_fr (zfr_up hmm20 (zfr_rf [(28, 8)] _) hc0 rfl) rfl) hRWDmh
          have r21 : 0 ≤ (m20 a0 7) ∧ (m20 a0 7) ≤ 700 := zi_rd hIm20 hc0 zb_28_7
          have e22 : (m20 a0 7) = (zu_w32 ((mh a0 7) + 1)) := (zs_eq hmm20)
          have r23 : 0 ≤ (m20 a0 6) ∧ (m20 a0 6) ≤ 700 := zi_rd hIm20 hc0 zb_28_6
          have e24 : (m20 a0 6) = (mh a0 6) := (zs_ne hmm20 (Or.inr (by decide)))
          have hRNSm20 := zR_NS_of hc0 (show m20 a0 7 ≤ m20 a0 6 by omega)
          have hM : (700 - (m20 a0 7)) * 1 + 1402 < (k : Int) := by omega
          exact ih.1  m20 hIm20 hFm20 (by omega) hRNSm20 hRWDm20 hM
        · have b25 : 0 ≤ (mh a0 7) ∧ (mh a0 7) < 700 := by omega
          refine zw_if b25 ?_
          refine zw_ite (fun h26 => ?_) (fun h26 => ?_)
          · generalize hmm27 : zu_up mh a0 10 (mh a0 7) = m27
            have hIm27 := zi_up hmm27 hImh hc0 zb_28_10 (by omega) (by omega)
            have hFm27 := zfr_up hmm27 hFmh hc0 rfl
            have hRNSm27 := zR_NS_fr (zdis_fr (zfr_up hmm27 (zfr_rf [(28, 11)] _) hc0 rfl) rfl) hRNSmh
            have hRWDm27 := zR_WD_fr (zdis_fr (zfr_up hmm27 (zfr_rf [(28, 11)] _) hc0 rfl) rfl) hRWDmh
            have r28 : 0 ≤ (m27 a0 7) ∧ (m27 a0 7) ≤ 700 := zi_rd hIm27 hc0 zb_28_7
            have e29 : (m27 a0 7) = (mh a0 7) := (zs_ne hmm27 (Or.inr (by decide)))
            have r30 : 0 ≤ (m27 a0 6) ∧ (m27 a0 6) ≤ 700 := zi_rd hIm27 hc0 zb_28_6
            have e31 : (m27 a0 6) = (mh a0 6) := (zs_ne hmm27 (Or.inr (by decide)))
            refine zw_ite (fun h32 => ?_) (fun h32 => ?_)
            · refine zw_bd (zw_eq (zr_87_0 n a0 (m27 a0 7) m27) ?_)
              refine zw_ite (fun h33 => ?_) (fun h33 => ?_)
              · refine zw_b (by omega) ?_
                refine zw_some ?_
                refine zw_ite (fun h34 => ?_) (fun h34 => ?_)
                · refine zw_bd (zw_eq (zr_88_0 n a0 (m27 a0 7) m27) ?_)
                  refine zw_ite (fun h35 => ?_) (fun h35 => ?_)
                  · refine zw_b (by omega) ?_
                    refine zw_some ?_
                    refine zw_ite (fun h36 => ?_) (fun h36 => ?_)
                    · refine zw_bd (zw_mono (zk_90 n hIm27 hc0 ⟨by omega, by omega⟩ (by omega) hRNSm27) (fun v38 m37 hqm37 => ?_))
                      obtain ⟨hIm37, hfm37, hvm37⟩ := hqm37
                      have hFm37 := zfr_tr hFm27 hfm37 rfl
                      obtain ⟨hRNSm37, hvm37⟩ := hvm37
                      have hRWDm37 := zR_WD_fr (zdis_fr hfm37 rfl) hRWDm27
                      have s39 := hRNSm37 a0 hc0
                      have r40 : 0 ≤ (m37 a0 8) ∧ (m37 a0 8) ≤ 6 := zi_rd hIm37 hc0 zb_28_8
                      exact zw_some ⟨hIm37, hFm37, hRNSm37, hRWDm37, trivial, by omega, by omega⟩
                    · exfalso; omega
                  · exfalso; omega
                · exfalso; omega
              · have b41 : 0 ≤ (m27 a0 7) ∧ (m27 a0 7) < 700 := by omega
                refine zw_if b41 ?_
                have r42 : (-2147483648) ≤ (m27 191 (m27 a0 7)) ∧ (m27 191 (m27 a0 7)) ≤ 2147483647 := zi_rd hIm27 zq_191 (zb_100 _)
                refine zw_ite (fun h43 => ?_) (fun h43 => ?_)
                · refine zw_b (by omega) ?_
                  refine zw_some ?_
                  refine zw_ite (fun h44 => ?_) (fun h44 => ?_)
                  · refine zw_bd (zw_eq (zr_88_0 n a0 (m27 a0 7) m27) ?_)
                    refine zw_ite (fun h45 => ?_) (fun h45 => ?_)
                    · refine zw_b (by omega) ?_
                      refine zw_some ?_
                      refine zw_ite (fun h46 => ?_) (fun h46 => ?_)
                      · refine zw_bd (zw_mono (zk_90 n hIm27 hc0 ⟨by omega, by omega⟩ (by omega) hRNSm27) (fun v48 m47 hqm47 => ?_))
                        obtain ⟨hIm47, hfm47, hvm47⟩ := hqm47
                        have hFm47 := zfr_tr hFm27 hfm47 rfl
                        obtain ⟨hRNSm47, hvm47⟩ := hvm47
                        have hRWDm47 := zR_WD_fr (zdis_fr hfm47 rfl) hRWDm27
                        have s49 := hRNSm47 a0 hc0
                        have r50 : 0 ≤ (m47 a0 8) ∧ (m47 a0 8) ≤ 6 := zi_rd hIm47 hc0 zb_28_8
                        exact zw_some ⟨hIm47, hFm47, hRNSm47, hRWDm47, trivial, by omega, by omega⟩
                      · exfalso; omega
                    · have b51 : 0 ≤ (m27 a0 7) ∧ (m27 a0 7) < 700 := by omega
                      refine zw_if b51 ?_
                      refine zw_ite (fun h52 => ?_) (fun h52 => ?_)
                      · refine zw_b (by omega) ?_
                        refine zw_some ?_
                        refine zw_ite (fun h53 => ?_) (fun h53 => ?_)
                        · refine zw_bd (zw_mono (zk_90 n hIm27 hc0 ⟨by omega, by omega⟩ (by omega) hRNSm27) (fun v55 m54 hqm54 => ?_))
                          obtain ⟨hIm54, hfm54, hvm54⟩ := hqm54
                          have hFm54 := zfr_tr hFm27 hfm54 rfl
                          obtain ⟨hRNSm54, hvm54⟩ := hvm54
                          have hRWDm54 := zR_WD_fr (zdis_fr hfm54 rfl) hRWDm27
                          have s56 := hRNSm54 a0 hc0
                          have r57 : 0 ≤ (m54 a0 8) ∧ (m54 a0 8) ≤ 6 := zi_rd hIm54 hc0 zb_28_8
                          exact zw_some ⟨hIm54, hFm54, hRNSm54, hRWDm54, trivial, by omega, by omega⟩
                        · exfalso; omega
                      · have b58 : 0 ≤ (m27 a0 7) ∧ (m27 a0 7) < 700 := by omega
                        refine zw_if b58 ?_
                        refine zw_ite (fun h59 => ?_) (fun h59 => ?_)
                        · refine zw_b (by omega) ?_
                          refine zw_some ?_
                          refine zw_ite (fun h60 => ?_) (fun h60 => ?_)
                          · refine zw_bd (zw_mono (zk_90 n hIm27 hc0 ⟨by omega, by omega⟩ (by omega) hRNSm27) (fun v62 m61 hqm61 => ?_))
                            obtain ⟨hIm61, hfm61, hvm61⟩ := hqm61
                            have hFm61 := zfr_tr hFm27 hfm61 rfl
                            obtain ⟨hRNSm61, hvm61⟩ := hvm61
                            have hRWDm61 := zR_WD_fr (zdis_fr hfm61 rfl) hRWDm27
                            have s63 := hRNSm61 a0 hc0
                            have r64 : 0 ≤ (m61 a0 8) ∧ (m61 a0 8) ≤ 6 := zi_rd hIm61 hc0 zb_28_8
                            exact zw_some ⟨hIm61, hFm61, hRNSm61, hRWDm61, trivial, by omega, by omega⟩
                          · exfalso; omega
                        · refine zw_b (by omega) ?_
                          refine zw_some ?_
                          refine zw_ite (fun h65 => ?_) (fun h65 => ?_)
                          · exfalso; omega
                          · generalize hmm66 : zu_up m27 a0 8 3 = m66
                            have hIm66 := zi_up hmm66 hIm27 hc0 zb_28_8 (by omega) (by omega)
                            have hFm66 := zfr_up hmm66 hFm27 hc0 rfl
                            have hRNSm66 := zR_NS_fr (zdis_fr (zfr_up hmm66 (zfr_rf [(28, 9)] _) hc0 rfl) rfl) hRNSm27
                            have hRWDm66 := zR_WD_fr (zdis_fr (zfr_up hmm66 (zfr_rf [(28, 9)] _) hc0 rfl) rfl) hRWDm27
                            generalize hmm67 : zu_up m66 a0 9 0 = m67
                            have hIm67 := zi_up hmm67 hIm66 hc0 zb_28_9 (by omega) (by omega)
                            have hFm67 := zfr_up hmm67 hFm66 hc0 rfl
                            have hRNSm67 := zR_NS_fr (zdis_fr (zfr_up hmm67 (zfr_rf [(28, 10)] _) hc0 rfl) rfl) hRNSm66
                            have hRWDm67 := zR_WD_fr (zdis_fr (zfr_up hmm67 (zfr_rf [(28, 10)] _) hc0 rfl) rfl) hRWDm66
                            have r68 : 0 ≤ (m67 a0 6) ∧ (m67 a0 6) ≤ 700 := zi_rd hIm67 hc0 zb_28_6
                            have e69 : (m67 a0 6) = (m27 a0 6) := (Eq.trans (zs_ne hmm67 (Or.inr (by decide))) (zs_ne hmm66 (Or.inr (by decide))))
                            have r70 : 0 ≤ (m67 a0 10) ∧ (m67 a0 10) ≤ 700 := zi_rd hIm67 hc0 zb_28_10
                            have e71 : (m67 a0 10) = (mh a0 7) := (Eq.trans (zs_ne hmm67 (Or.inr (by decide))) (Eq.trans (zs_ne hmm66 (Or.inr (by decide))) (zs_eq hmm27)))
                            have r72 : 0 ≤ (m67 a0 8) ∧ (m67 a0 8) ≤ 6 := zi_rd hIm67 hc0 zb_28_8
                            have e73 : (m67 a0 8) = 3 := (Eq.trans (zs_ne hmm67 (Or.inr (by decide))) (zs_eq hmm66))
                            have r74 : (-2147483648) ≤ (m67 a0 9) ∧ (m67 a0 9) ≤ 2147483647 := zi_rd hIm67 hc0 zb_28_9
                            have e75 : (m67 a0 9) = 0 := (zs_eq hmm67)
                            have r76 : 0 ≤ (m67 a0 7) ∧ (m67 a0 7) ≤ 700 := zi_rd hIm67 hc0 zb_28_7
                            have e77 : (m67 a0 7) = (m27 a0 7) := (Eq.trans (zs_ne hmm67 (Or.inr (by decide))) (zs_ne hmm66 (Or.inr (by decide))))
                            have hM : (700 - (m67 a0 7)) * 1 + 0 < (k : Int) := by omega
                            exact ih.2.2  m67 hIm67 hFm67 ⟨by omega, by omega⟩ ⟨by omega, by omega⟩ ⟨by omega, by omega⟩ ⟨by omega, by omega⟩ (by omega) hRNSm67 hRWDm67 hM
                  · exfalso; omega
                · have b78 : 0 ≤ (m27 a0 7) ∧ (m27 a0 7) < 700 := by omega
                  refine zw_if b78 ?_
                  refine zw_ite (fun h79 => ?_) (fun h79 => ?_)
                  · refine zw_b (by omega) ?_
                    refine zw_some ?_
                    refine zw_ite (fun h80 => ?_) (fun h80 => ?_)
                    · refine zw_bd (zw_eq (zr_88_0 n a0 (m27 a0 7) m27) ?_)
                      refine zw_ite (fun h81 => ?_) (fun h81 => ?_)
                      · refine zw_b (by omega) ?_
                        refine zw_some ?_
                        refine zw_ite (fun h82 => ?_) (fun h82 => ?_)
                        · refine zw_bd (zw_mono (zk_90 n hIm27 hc0 ⟨by omega, by omega⟩ (by omega) hRNSm27) (fun v84 m83 hqm83 => ?_))
                          obtain ⟨hIm83, hfm83, hvm83⟩ := hqm83
                          have hFm83 := zfr_tr hFm27 hfm83 rfl
                          obtain ⟨hRNSm83, hvm83⟩ := hvm83
                          have hRWDm83 := zR_WD_fr (zdis_fr hfm83 rfl) hRWDm27
                          have s85 := hRNSm83 a0 hc0
                          have r86 : 0 ≤ (m83 a0 8) ∧ (m83 a0 8) ≤ 6 := zi_rd hIm83 hc0 zb_28_8
                          exact zw_some ⟨hIm83, hFm83, hRNSm83, hRWDm83, trivial, by omega, by omega⟩
                        · exfalso; omega
                      · have b87 : 0 ≤ (m27 a0 7) ∧ (m27 a0 7) < 700 := by omega
                        refine zw_if b87 ?_
                        refine zw_ite (fun h88 => ?_) (fun h88 => ?_)
                        · exfalso; omega
                        · have b89 : 0 ≤ (m27 a0 7) ∧ (m27 a0 7) < 700 := by omega
                          refine zw_if b89 ?_
                          refine zw_ite (fun h90 => ?_) (fun h90 => ?_)
                          · refine zw_b (by omega) ?_
                            refine zw_some ?_
                            refine zw_ite (fun h91 => ?_) (fun h91 => ?_)
                            · refine zw_bd (zw_mono (zk_90 n hIm27 hc0 ⟨by omega, by omega⟩ (by omega) hRNSm27) (fun v93 m92 hqm92 => ?_))
                              obtain ⟨hIm92, hfm92, hvm92⟩ := hqm92
                              have hFm92 := zfr_tr hFm27 hfm92 rfl
                              obtain ⟨hRNSm92, hvm92⟩ := hvm92
                              have hRWDm92 := zR_WD_fr (zdis_fr hfm92 rfl) hRWDm27
                              have s94 := hRNSm92 a0 hc0
                              have r95 : 0 ≤ (m92 a0 8) ∧ (m92 a0 8) ≤ 6 := zi_rd hIm92 hc0 zb_28_8
                              exact zw_some ⟨hIm92, hFm92, hRNSm92, hRWDm92, trivial, by omega, by omega⟩
                            · exfalso; omega
                          · exfalso; omega
                    · exfalso; omega
                  · refine zw_b (by omega) ?_
                    refine zw_some ?_
                    refine zw_ite (fun h96 => ?_) (fun h96 => ?_)
                    · exfalso; omega
                    · have r97 : 0 ≤ (m27 a0 10) ∧ (m27 a0 10) ≤ 700 := zi_rd hIm27 hc0 zb_28_10
                      have e98 : (m27 a0 10) = (mh a0 7) := (zs_eq hmm27)
                      have hM : (700 - (m27 a0 7)) * 1 + 701 < (k : Int) := by omega
                      exact ih.2.1  m27 hIm27 hFm27 ⟨by omega, by omega⟩ ⟨by omega, by omega⟩ (by omega) (by omega) hRNSm27 hRWDm27 hM
            · generalize hmm99 : zu_up m27 a0 8 0 = m99
              have hIm99 := zi_up hmm99 hIm27 hc0 zb_28_8 (by omega) (by omega)
              have hFm99 := zfr_up hmm99 hFm27 hc0 rfl
              have hRNSm99 := zR_NS_fr (zdis_fr (zfr_up hmm99 (zfr_rf [(28, 9)] _) hc0 rfl) rfl) hRNSm27
              have hRWDm99 := zR_WD_fr (zdis_fr (zfr_up hmm99 (zfr_rf [(28, 9)] _) hc0 rfl) rfl) hRWDm27
              have r100 : 0 ≤ (m99 a0 7) ∧ (m99 a0 7) ≤ 700 := zi_rd hIm99 hc0 zb_28_7
              have e101 : (m99 a0 7) = (m27 a0 7) := (zs_ne hmm99 (Or.inr (by decide)))
              have r102 : 0 ≤ (m99 a0 8) ∧ (m99 a0 8) ≤ 6 := zi_rd hIm99 hc0 zb_28_8
              have e103 : (m99 a0 8) = 0 := (zs_eq hmm99)
              exact zw_some ⟨hIm99, hFm99, hRNSm99, hRWDm99, trivial, by omega, by omega⟩
          · have w104 := zu_w32_id (z := (mh a0 7) + 1) (by omega) (by omega)
            generalize hmm105 : zu_up mh a0 7 (zu_w32 ((mh a0 7) + 1)) = m105
            have hIm105 := zi_up hmm105 hImh hc0 zb_28_7 (by omega) (by omega)
            have hFm105 := zfr_up hmm105 hFmh hc0 rfl
            have hRWDm105 := zR_WD_fr (zdis_fr (zfr_up hmm105 (zfr_rf [(28, 8)] _) hc0 rfl) rfl) hRWDmh
            have r106 : 0 ≤ (m105 a0 7) ∧ (m105 a0 7) ≤ 700 := zi_rd hIm105 hc0 zb_28_7
            have e107 : (m105 a0 7) = (zu_w32 ((mh a0 7) + 1)) := (zs_eq hmm105)
            have r108 : 0 ≤ (m105 a0 6) ∧ (m105 a0 6) ≤ 700 := zi_rd hIm105 hc0 zb_28_6
            have e109 : (m105 a0 6) = (mh a0 6) := (zs_ne hmm105 (Or.inr (by decide)))
            have hRNSm105 := zR_NS_of hc0 (show m105 a0 7 ≤ m105 a0 6 by omega)
            have hM : (700 - (m105 a0 7)) * 1 + 1402 < (k : Int) := by omega
            exact ih.1  m105 hIm105 hFm105 (by omega) hRNSm105 hRWDm105 hM
    · intro mh hImh hFmh hg0 hg1 hH0 hH1 hRNSmh hRWDmh hM
      refine zw_eq (zr_89_90 n a0 mh) ?_
      have r110 : 0 ≤ (mh a0 7) ∧ (mh a0 7) ≤ 700 := zi_rd hImh hc0 zb_28_7
      have s111 := hRNSmh a0 hc0
      refine zw_bd (zw_eq (zr_87_0 n a0 (mh a0 7) mh) ?_)
      refine zw_ite (fun h112 => ?_) (fun h112 => ?_)
      · refine zw_b (by omega) ?_
        refine zw_some ?_
        refine zw_ite (fun h113 => ?_) (fun h113 => ?_)
        · refine zw_bd (zw_mono (zk_86 n hImh hc0 ⟨by omega, by omega⟩ ⟨by omega, by omega⟩ hRWDmh) (fun v115 m114 hqm114 => ?_))
          obtain ⟨hIm114, hfm114, hvm114⟩ := hqm114
          have hFm114 := zfr_tr hFmh hfm114 rfl
          obtain ⟨hRWDm114, hvm114⟩ := hvm114
          have hRNSm114 := zR_NS_fr (zdis_fr hfm114 rfl) hRNSmh
          have s116 := hRNSm114 a0 hc0
          generalize hmm117 : zu_up m114 a0 9 v115 = m117
          have hIm117 := zi_up hmm117 hIm114 hc0 zb_28_9 (by omega) (by omega)
          have hFm117 := zfr_up hmm117 hFm114 hc0 rfl
          have hRNSm117 := zR_NS_fr (zdis_fr (zfr_up hmm117 (zfr_rf [(28, 10)] _) hc0 rfl) rfl) hRNSm114
          have hRWDm117 := zR_WD_fr (zdis_fr (zfr_up hmm117 (zfr_rf [(28, 10)] _) hc0 rfl) rfl) hRWDm114
          have r118 : (-2147483648) ≤ (m117 a0 9) ∧ (m117 a0 9) ≤ 2147483647 := zi_rd hIm117 hc0 zb_28_9
          have e119 : (m117 a0 9) = v115 := (zs_eq hmm117)
          refine zw_ite (fun h120 => ?_) (fun h120 => ?_)
          · have r121 : 0 ≤ (m117 a0 7) ∧ (m117 a0 7) ≤ 700 := zi_rd hIm117 hc0 zb_28_7
            have e122 : (m117 a0 7) = (mh a0 7) := (Eq.trans (zs_ne hmm117 (Or.inr (by decide))) (zfr_ap hfm114 hc0 rfl))
            have r123 : 0 ≤ (m117 a0 10) ∧ (m117 a0 10) ≤ 700 := zi_rd hIm117 hc0 zb_28_10
            have e124 : (m117 a0 10) = (mh a0 10) := (Eq.trans (zs_ne hmm117 (Or.inr (by decide))) (zfr_ap hfm114 hc0 rfl))
            have w125 := zu_w32_id (z := (m117 a0 7) - (m117 a0 10)) (by omega) (by omega)
            refine zw_ite (fun h126 => ?_) (fun h126 => ?_)
            · generalize hmm127 : zu_up m117 a0 8 2 = m127
              have hIm127 := zi_up hmm127 hIm117 hc0 zb_28_8 (by omega) (by omega)
              have hFm127 := zfr_up hmm127 hFm117 hc0 rfl
              have hRNSm127 := zR_NS_fr (zdis_fr (zfr_up hmm127 (zfr_rf [(28, 9)] _) hc0 rfl) rfl) hRNSm117
              have hRWDm127 := zR_WD_fr (zdis_fr (zfr_up hmm127 (zfr_rf [(28, 9)] _) hc0 rfl) rfl) hRWDm117
              have r128 : 0 ≤ (m127 a0 8) ∧ (m127 a0 8) ≤ 6 := zi_rd hIm127 hc0 zb_28_8
              have e129 : (m127 a0 8) = 2 := (zs_eq hmm127)
              refine zw_ite (fun h130 => ?_) (fun h130 => ?_)
              · exfalso; omega
              · have r131 : 0 ≤ (m127 a0 10) ∧ (m127 a0 10) ≤ 700 := zi_rd hIm127 hc0 zb_28_10
                have e132 : (m127 a0 10) = (m117 a0 10) := (zs_ne hmm127 (Or.inr (by decide)))
                have r133 : 0 ≤ (m127 a0 7) ∧ (m127 a0 7) ≤ 700 := zi_rd hIm127 hc0 zb_28_7
                have e134 : (m127 a0 7) = (m117 a0 7) := (zs_ne hmm127 (Or.inr (by decide)))
                refine zw_bd (zw_mono (zk_91 n hIm127 hc0 ⟨by omega, by omega⟩ ⟨by omega, by omega⟩) (fun v136 m135 hqm135 => ?_))
                obtain ⟨hIm135, hfm135, hvm135⟩ := hqm135
                have hFm135 := zfr_tr hFm127 hfm135 rfl
                have hRNSm135 := zR_NS_fr (zdis_fr hfm135 rfl) hRNSm127
                have hRWDm135 := zR_WD_fr (zdis_fr hfm135 rfl) hRWDm127
                have s137 := hRNSm135 a0 hc0
                generalize hmm138 : zu_up m135 a0 9 v136 = m138
                have hIm138 := zi_up hmm138 hIm135 hc0 zb_28_9 (by omega) (by omega)
                have hFm138 := zfr_up hmm138 hFm135 hc0 rfl
                have hRNSm138 := zR_NS_fr (zdis_fr (zfr_up hmm138 (zfr_rf [(28, 10)] _) hc0 rfl) rfl) hRNSm135
                have hRWDm138 := zR_WD_fr (zdis_fr (zfr_up hmm138 (zfr_rf [(28, 10)] _) hc0 rfl) rfl) hRWDm135
                have r139 : 0 ≤ (m138 a0 7) ∧ (m138 a0 7) ≤ 700 := zi_rd hIm138 hc0 zb_28_7
                have e140 : (m138 a0 7) = (m127 a0 7) := (Eq.trans (zs_ne hmm138 (Or.inr (by decide))) (zfr_ap hfm135 hc0 rfl))
                have r141 : 0 ≤ (m138 a0 8) ∧ (m138 a0 8) ≤ 6 := zi_rd hIm138 hc0 zb_28_8
                have e142 : (m138 a0 8) = (m127 a0 8) := (Eq.trans (zs_ne hmm138 (Or.inr (by decide))) (zfr_ap hfm135 hc0 rfl))
                exact zw_some ⟨hIm138, hFm138, hRNSm138, hRWDm138, trivial, by omega, by omega⟩
            · generalize hmm143 : zu_up m117 a0 8 6 = m143
              have hIm143 := zi_up hmm143 hIm117 hc0 zb_28_8 (by omega) (by omega)
              have hFm143 := zfr_up hmm143 hFm117 hc0 rfl
              have hRNSm143 := zR_NS_fr (zdis_fr (zfr_up hmm143 (zfr_rf [(28, 9)] _) hc0 rfl) rfl) hRNSm117
              have hRWDm143 := zR_WD_fr (zdis_fr (zfr_up hmm143 (zfr_rf [(28, 9)] _) hc0 rfl) rfl) hRWDm117
              have r144 : 0 ≤ (m143 a0 8) ∧ (m143 a0 8) ≤ 6 := zi_rd hIm143 hc0 zb_28_8
              have e145 : (m143 a0 8) = 6 := (zs_eq hmm143)
              refine zw_ite (fun h146 => ?_) (fun h146 => ?_)
              · have r147 : 0 ≤ (m143 a0 7) ∧ (m143 a0 7) ≤ 700 := zi_rd hIm143 hc0 zb_28_7
                have e148 : (m143 a0 7) = (m117 a0 7) := (zs_ne hmm143 (Or.inr (by decide)))
                exact zw_some ⟨hIm143, hFm143, hRNSm143, hRWDm143, trivial, by omega, by omega⟩
              · exfalso; omega
          · generalize hmm149 : zu_up m117 a0 8 1 = m149
            have hIm149 := zi_up hmm149 hIm117 hc0 zb_28_8 (by omega) (by omega)
            have hFm149 := zfr_up hmm149 hFm117 hc0 rfl
            have hRNSm149 := zR_NS_fr (zdis_fr (zfr_up hmm149 (zfr_rf [(28, 9)] _) hc0 rfl) rfl) hRNSm117
            have hRWDm149 := zR_WD_fr (zdis_fr (zfr_up hmm149 (zfr_rf [(28, 9)] _) hc0 rfl) rfl) hRWDm117
            have r150 : 0 ≤ (m149 a0 8) ∧ (m149 a0 8) ≤ 6 := zi_rd hIm149 hc0 zb_28_8
            have e151 : (m149 a0 8) = 1 := (zs_eq hmm149)
            refine zw_ite (fun h152 => ?_) (fun h152 => ?_)
            · have r153 : 0 ≤ (m149 a0 7) ∧ (m149 a0 7) ≤ 700 := zi_rd hIm149 hc0 zb_28_7
              have e154 : (m149 a0 7) = (mh a0 7) := (Eq.trans (zs_ne hmm149 (Or.inr (by decide))) (Eq.trans (zs_ne hmm117 (Or.inr (by decide))) (zfr_ap hfm114 hc0 rfl)))
              exact zw_some ⟨hIm149, hFm149, hRNSm149, hRWDm149, trivial, by omega, by omega⟩
            · exfalso; omega
        · exfalso; omega
      · have b155 : 0 ≤ (mh a0 7) ∧ (mh a0 7) < 700 := by omega
        refine zw_if b155 ?_
        have r156 : (-2147483648) ≤ (mh 191 (mh a0 7)) ∧ (mh 191 (mh a0 7)) ≤ 2147483647 := zi_rd hImh zq_191 (zb_100 _)
        refine zw_ite (fun h157 => ?_) (fun h157 => ?_)
        · refine zw_b (by omega) ?_
          refine zw_some ?_
          refine zw_ite (fun h158 => ?_) (fun h158 => ?_)
          · refine zw_bd (zw_mono (zk_86 n hImh hc0 ⟨by omega, by omega⟩ ⟨by omega, by omega⟩ hRWDmh) (fun v160 m159 hqm159 => ?_))
            obtain ⟨hIm159, hfm159, hvm159⟩ := hqm159
            have hFm159 := zfr_tr hFmh hfm159 rfl
            obtain ⟨hRWDm159, hvm159⟩ := hvm159
            have hRNSm159 := zR_NS_fr (zdis_fr hfm159 rfl) hRNSmh
            have s161 := hRNSm159 a0 hc0
            generalize hmm162 : zu_up m159 a0 9 v160 = m162
            have hIm162 := zi_up hmm162 hIm159 hc0 zb_28_9 (by omega) (by omega)
            have hFm162 := zfr_up hmm162 hFm159 hc0 rfl
            have hRNSm162 := zR_NS_fr (zdis_fr (zfr_up hmm162 (zfr_rf [(28, 10)] _) hc0 rfl) rfl) hRNSm159
            have hRWDm162 := zR_WD_fr (zdis_fr (zfr_up hmm162 (zfr_rf [(28, 10)] _) hc0 rfl) rfl) hRWDm159
            have r163 : (-2147483648) ≤ (m162 a0 9) ∧ (m162 a0 9) ≤ 2147483647 := zi_rd hIm162 hc0 zb_28_9
            have e164 : (m162 a0 9) = v160 := (zs_eq hmm162)
            refine zw_ite (fun h165 => ?_) (fun h165 => ?_)
            · have r166 : 0 ≤ (m162 a0 7) ∧ (m162 a0 7) ≤ 700 := zi_rd hIm162 hc0 zb_28_7
              have e167 : (m162 a0 7) = (mh a0 7) := (Eq.trans (zs_ne hmm162 (Or.inr (by decide))) (zfr_ap hfm159 hc0 rfl))
              have r168 : 0 ≤ (m162 a0 10) ∧ (m162 a0 10) ≤ 700 := zi_rd hIm162 hc0 zb_28_10
              have e169 : (m162 a0 10) = (mh a0 10) := (Eq.trans (zs_ne hmm162 (Or.inr (by decide))) (zfr_ap hfm159 hc0 rfl))
              have w170 := zu_w32_id (z := (m162 a0 7) - (m162 a0 10)) (by omega) (by omega)
              refine zw_ite (fun h171 => ?_) (fun h171 => ?_)
              · generalize hmm172 : zu_up m162 a0 8 2 = m172
                have hIm172 := zi_up hmm172 hIm162 hc0 zb_28_8 (by omega) (by omega)
                have hFm172 := zfr_up hmm172 hFm162 hc0 rfl
                have hRNSm172 := zR_NS_fr (zdis_fr (zfr_up hmm172 (zfr_rf [(28, 9)] _) hc0 rfl) rfl) hRNSm162
                have hRWDm172 := zR_WD_fr (zdis_fr (zfr_up hmm172 (zfr_rf [(28, 9)] _) hc0 rfl) rfl) hRWDm162
                have r173 : 0 ≤ (m172 a0 8) ∧ (m172 a0 8) ≤ 6 := zi_rd hIm172 hc0 zb_28_8
                have e174 : (m172 a0 8) = 2 := (zs_eq hmm172)
                refine zw_ite (fun h175 => ?_) (fun h175 => ?_)
                · exfalso; omega
                · have r176 : 0 ≤ (m172 a0 10) ∧ (m172 a0 10) ≤ 700 := zi_rd hIm172 hc0 zb_28_10
                  have e177 : (m172 a0 10) = (m162 a0 10) := (zs_ne hmm172 (Or.inr (by decide)))
                  have r178 : 0 ≤ (m172 a0 7) ∧ (m172 a0 7) ≤ 700 := zi_rd hIm172 hc0 zb_28_7
                  have e179 : (m172 a0 7) = (m162 a0 7) := (zs_ne hmm172 (Or.inr (by decide)))
                  refine zw_bd (zw_mono (zk_91 n hIm172 hc0 ⟨by omega, by omega⟩ ⟨by omega, by omega⟩) (fun v181 m180 hqm180 => ?_))
                  obtain ⟨hIm180, hfm180, hvm180⟩ := hqm180
                  have hFm180 := zfr_tr hFm172 hfm180 rfl
                  have hRNSm180 := zR_NS_fr (zdis_fr hfm180 rfl) hRNSm172
                  have hRWDm180 := zR_WD_fr (zdis_fr hfm180 rfl) hRWDm172
                  have s182 := hRNSm180 a0 hc0
                  generalize hmm183 : zu_up m180 a0 9 v181 = m183
                  have hIm183 := zi_up hmm183 hIm180 hc0 zb_28_9 (by omega) (by omega)
                  have hFm183 := zfr_up hmm183 hFm180 hc0 rfl
                  have hRNSm183 := zR_NS_fr (zdis_fr (zfr_up hmm183 (zfr_rf [(28, 10)] _) hc0 rfl) rfl) hRNSm180
                  have hRWDm183 := zR_WD_fr (zdis_fr (zfr_up hmm183 (zfr_rf [(28, 10)] _) hc0 rfl) rfl) hRWDm180
                  have r184 : 0 ≤ (m183 a0 7) ∧ (m183 a0 7) ≤ 700 := zi_rd hIm183 hc0 zb_28_7
                  have e185 : (m183 a0 7) = (m172 a0 7) := (Eq.trans (zs_ne hmm183 (Or.inr (by decide))) (zfr_ap hfm180 hc0 rfl))
                  have r186 : 0 ≤ (m183 a0 8) ∧ (m183 a0 8) ≤ 6 := zi_rd hIm183 hc0 zb_28_8
                  have e187 : (m183 a0 8) = (m172 a0 8) := (Eq.trans (zs_ne hmm183 (Or.inr (by decide))) (zfr_ap hfm180 hc0 rfl))
                  exact zw_some ⟨hIm183, hFm183, hRNSm183, hRWDm183, trivial, by omega, by omega⟩
              · generalize hmm188 : zu_up m162 a0 8 6 = m188
                have hIm188 := zi_up hmm188 hIm162 hc0 zb_28_8 (by omega) (by omega)
                have hFm188 := zfr_up hmm188 hFm162 hc0 rfl
                have hRNSm188 := zR_NS_fr (zdis_fr (zfr_up hmm188 (zfr_rf [(28, 9)] _) hc0 rfl) rfl) hRNSm162
                have hRWDm188 := zR_WD_fr (zdis_fr (zfr_up hmm188 (zfr_rf [(28, 9)] _) hc0 rfl) rfl) hRWDm162
                have r189 : 0 ≤ (m188 a0 8) ∧ (m188 a0 8) ≤ 6 := zi_rd hIm188 hc0 zb_28_8
                have e190 : (m188 a0 8) = 6 := (zs_eq hmm188)
                refine zw_ite (fun h191 => ?_) (fun h191 => ?_)
                · have r192 : 0 ≤ (m188 a0 7) ∧ (m188 a0 7) ≤ 700 := zi_rd hIm188 hc0 zb_28_7
                  have e193 : (m188 a0 7) = (m162 a0 7) := (zs_ne hmm188 (Or.inr (by decide)))
                  exact zw_some ⟨hIm188, hFm188, hRNSm188, hRWDm188, trivial, by omega, by omega⟩
                · exfalso; omega
            · generalize hmm194 : zu_up m162 a0 8 1 = m194
              have hIm194 := zi_up hmm194 hIm162 hc0 zb_28_8 (by omega) (by omega)
              have hFm194 := zfr_up hmm194 hFm162 hc0 rfl
              have hRNSm194 := zR_NS_fr (zdis_fr (zfr_up hmm194 (zfr_rf [(28, 9)] _) hc0 rfl) rfl) hRNSm162
              have hRWDm194 := zR_WD_fr (zdis_fr (zfr_up hmm194 (zfr_rf [(28, 9)] _) hc0 rfl) rfl) hRWDm162
              have r195 : 0 ≤ (m194 a0 8) ∧ (m194 a0 8) ≤ 6 := zi_rd hIm194 hc0 zb_28_8
              have e196 : (m194 a0 8) = 1 := (zs_eq hmm194)
              refine zw_ite (fun h197 => ?_) (fun h197 => ?_)
              · have r198 : 0 ≤ (m194 a0 7) ∧ (m194 a0 7) ≤ 700 := zi_rd hIm194 hc0 zb_28_7
                have e199 : (m194 a0 7) = (mh a0 7) := (Eq.trans (zs_ne hmm194 (Or.inr (by decide))) (Eq.trans (zs_ne hmm162 (Or.inr (by decide))) (zfr_ap hfm159 hc0 rfl)))
                exact zw_some ⟨hIm194, hFm194, hRNSm194, hRWDm194, trivial, by omega, by omega⟩
              · exfalso; omega
          · exfalso; omega
        · have b200 : 0 ≤ (mh a0 7) ∧ (mh a0 7) < 700 := by omega
          refine zw_if b200 ?_
          refine zw_ite (fun h201 => ?_) (fun h201 => ?_)
          · refine zw_b (by omega) ?_
            refine zw_some ?_
            refine zw_ite (fun h202 => ?_) (fun h202 => ?_)
            · refine zw_bd (zw_mono (zk_86 n hImh hc0 ⟨by omega, by omega⟩ ⟨by omega, by omega⟩ hRWDmh) (fun v204 m203 hqm203 => ?_))
              obtain ⟨hIm203, hfm203, hvm203⟩ := hqm203
              have hFm203 := zfr_tr hFmh hfm203 rfl
              obtain ⟨hRWDm203, hvm203⟩ := hvm203
              have hRNSm203 := zR_NS_fr (zdis_fr hfm203 rfl) hRNSmh
              have s205 := hRNSm203 a0 hc0
              generalize hmm206 : zu_up m203 a0 9 v204 = m206
              have hIm206 := zi_up hmm206 hIm203 hc0 zb_28_9 (by omega) (by omega)
              have hFm206 := zfr_up hmm206 hFm203 hc0 rfl
              have hRNSm206 := zR_NS_fr (zdis_fr (zfr_up hmm206 (zfr_rf [(28, 10)] _) hc0 rfl) rfl) hRNSm203
              have hRWDm206 := zR_WD_fr (zdis_fr (zfr_up hmm206 (zfr_rf [(28, 10)] _) hc0 rfl) rfl) hRWDm203
              have r207 : (-2147483648) ≤ (m206 a0 9) ∧ (m206 a0 9) ≤ 2147483647 := zi_rd hIm206 hc0 zb_28_9
              have e208 : (m206 a0 9) = v204 := (zs_eq hmm206)
              refine zw_ite (fun h209 => ?_) (fun h209 => ?_)
              · have r210 : 0 ≤ (m206 a0 7) ∧ (m206 a0 7) ≤ 700 := zi_rd hIm206 hc0 zb_28_7
                have e211 : (m206 a0 7) = (mh a0 7) := (Eq.trans (zs_ne hmm206 (Or.inr (by decide))) (zfr_ap hfm203 hc0 rfl))
                have r212 : 0 ≤ (m206 a0 10) ∧ (m206 a0 10) ≤ 700 := zi_rd hIm206 hc0 zb_28_10
                have e213 : (m206 a0 10) = (mh a0 10) := (Eq.trans (zs_ne hmm206 (Or.inr (by decide))) (zfr_ap hfm203 hc0 rfl))
                have w214 := zu_w32_id (z := (m206 a0 7) - (m206 a0 10)) (by omega) (by omega)
                refine zw_ite (fun h215 => ?_) (fun h215 => ?_)
                · generalize hmm216 : zu_up m206 a0 8 2 = m216
                  have hIm216 := zi_up hmm216 hIm206 hc0 zb_28_8 (by omega) (by omega)
                  have hFm216 := zfr_up hmm216 hFm206 hc0 rfl
                  have hRNSm216 := zR_NS_fr (zdis_fr (zfr_up hmm216 (zfr_rf [(28, 9)] _) hc0 rfl) rfl) hRNSm206
                  have hRWDm216 := zR_WD_fr (zdis_fr (zfr_up hmm216 (zfr_rf [(28, 9)] _) hc0 rfl) rfl) hRWDm206
                  have r217 : 0 ≤ (m216 a0 8) ∧ (m216 a0 8) ≤ 6 := zi_rd hIm216 hc0 zb_28_8
                  have e218 : (m216 a0 8) = 2 := (zs_eq hmm216)
                  refine zw_ite (fun h219 => ?_) (fun h219 => ?_)
                  · exfalso; omega
                  · have r220 : 0 ≤ (m216 a0 10) ∧ (m216 a0 10) ≤ 700 := zi_rd hIm216 hc0 zb_28_10
                    have e221 : (m216 a0 10) = (m206 a0 10) := (zs_ne hmm216 (Or.inr (by decide)))
                    have r222 : 0 ≤ (m216 a0 7) ∧ (m216 a0 7) ≤ 700 := zi_rd hIm216 hc0 zb_28_7
                    have e223 : (m216 a0 7) = (m206 a0 7) := (zs_ne hmm216 (Or.inr (by decide)))
                    refine zw_bd (zw_mono (zk_91 n hIm216 hc0 ⟨by omega, by omega⟩ ⟨by omega, by omega⟩) (fun v225 m224 hqm224 => ?_))
                    obtain ⟨hIm224, hfm224, hvm224⟩ := hqm224
                    have hFm224 := zfr_tr hFm216 hfm224 rfl
                    have hRNSm224 := zR_NS_fr (zdis_fr hfm224 rfl) hRNSm216
                    have hRWDm224 := zR_WD_fr (zdis_fr hfm224 rfl) hRWDm216
                    have s226 := hRNSm224 a0 hc0
                    generalize hmm227 : zu_up m224 a0 9 v225 = m227
                    have hIm227 := zi_up hmm227 hIm224 hc0 zb_28_9 (by omega) (by omega)
                    have hFm227 := zfr_up hmm227 hFm224 hc0 rfl
                    have hRNSm227 := zR_NS_fr (zdis_fr (zfr_up hmm227 (zfr_rf [(28, 10)] _) hc0 rfl) rfl) hRNSm224
                    have hRWDm227 := zR_WD_fr (zdis_fr (zfr_up hmm227 (zfr_rf [(28, 10)] _) hc0 rfl) rfl) hRWDm224
                    have r228 : 0 ≤ (m227 a0 7) ∧ (m227 a0 7) ≤ 700 := zi_rd hIm227 hc0 zb_28_7
                    have e229 : (m227 a0 7) = (m216 a0 7) := (Eq.trans (zs_ne hmm227 (Or.inr (by decide))) (zfr_ap hfm224 hc0 rfl))
                    have r230 : 0 ≤ (m227 a0 8) ∧ (m227 a0 8) ≤ 6 := zi_rd hIm227 hc0 zb_28_8
                    have e231 : (m227 a0 8) = (m216 a0 8) := (Eq.trans (zs_ne hmm227 (Or.inr (by decide))) (zfr_ap hfm224 hc0 rfl))
                    exact zw_some ⟨hIm227, hFm227, hRNSm227, hRWDm227, trivial, by omega, by omega⟩
                · generalize hmm232 : zu_up m206 a0 8 6 = m232
                  have hIm232 := zi_up hmm232 hIm206 hc0 zb_28_8 (by omega) (by omega)
                  have hFm232 := zfr_up hmm232 hFm206 hc0 rfl
                  have hRNSm232 := zR_NS_fr (zdis_fr (zfr_up hmm232 (zfr_rf [(28, 9)] _) hc0 rfl) rfl) hRNSm206
                  have hRWDm232 := zR_WD_fr (zdis_fr (zfr_up hmm232 (zfr_rf [(28, 9)] _) hc0 rfl) rfl) hRWDm206
                  have r233 : 0 ≤ (m232 a0 8) ∧ (m232 a0 8) ≤ 6 := zi_rd hIm232 hc0 zb_28_8
                  have e234 : (m232 a0 8) = 6 := (zs_eq hmm232)
                  refine zw_ite (fun h235 => ?_) (fun h235 => ?_)
                  · have r236 : 0 ≤ (m232 a0 7) ∧ (m232 a0 7) ≤ 700 := zi_rd hIm232 hc0 zb_28_7
                    have e237 : (m232 a0 7) = (m206 a0 7) := (zs_ne hmm232 (Or.inr (by decide)))
                    exact zw_some ⟨hIm232, hFm232, hRNSm232, hRWDm232, trivial, by omega, by omega⟩
                  · exfalso; omega
              · generalize hmm238 : zu_up m206 a0 8 1 = m238
                have hIm238 := zi_up hmm238 hIm206 hc0 zb_28_8 (by omega) (by omega)
                have hFm238 := zfr_up hmm238 hFm206 hc0 rfl
                have hRNSm238 := zR_NS_fr (zdis_fr (zfr_up hmm238 (zfr_rf [(28, 9)] _) hc0 rfl) rfl) hRNSm206
                have hRWDm238 := zR_WD_fr (zdis_fr (zfr_up hmm238 (zfr_rf [(28, 9)] _) hc0 rfl) rfl) hRWDm206
                have r239 : 0 ≤ (m238 a0 8) ∧ (m238 a0 8) ≤ 6 := zi_rd hIm238 hc0 zb_28_8
                have e240 : (m238 a0 8) = 1 := (zs_eq hmm238)
                refine zw_ite (fun h241 => ?_) (fun h241 => ?_)
                · have r242 : 0 ≤ (m238 a0 7) ∧ (m238 a0 7) ≤ 700 := zi_rd hIm238 hc0 zb_28_7
                  have e243 : (m238 a0 7) = (mh a0 7) := (Eq.trans (zs_ne hmm238 (Or.inr (by decide))) (Eq.trans (zs_ne hmm206 (Or.inr (by decide))) (zfr_ap hfm203 hc0 rfl)))
                  exact zw_some ⟨hIm238, hFm238, hRNSm238, hRWDm238, trivial, by omega, by omega⟩
                · exfalso; omega
            · exfalso; omega
          · refine zw_b (by omega) ?_
            refine zw_some ?_
            refine zw_ite (fun h244 => ?_) (fun h244 => ?_)
            · exfalso; omega
            · have w245 := zu_w32_id (z := (mh a0 7) + 1) (by omega) (by omega)
              generalize hmm246 : zu_up mh a0 7 (zu_w32 ((mh a0 7) + 1)) = m246
              have hIm246 := zi_up hmm246 hImh hc0 zb_28_7 (by omega) (by omega)
              have hFm246 := zfr_up hmm246 hFmh hc0 rfl
              have hRWDm246 := zR_WD_fr (zdis_fr (zfr_up hmm246 (zfr_rf [(28, 8)] _) hc0 rfl) rfl) hRWDmh
              have r247 : 0 ≤ (m246 a0 7) ∧ (m246 a0 7) ≤ 700 := zi_rd hIm246 hc0 zb_28_7
              have e248 : (m246 a0 7) = (zu_w32 ((mh a0 7) + 1)) := (zs_eq hmm246)
              have r249 : 0 ≤ (m246 a0 6) ∧ (m246 a0 6) ≤ 700 := zi_rd hIm246 hc0 zb_28_6
              have e250 : (m246 a0 6) = (mh a0 6) := (zs_ne hmm246 (Or.inr (by decide)))
              have hRNSm246 := zR_NS_of hc0 (show m246 a0 7 ≤ m246 a0 6 by omega)
              have r251 : 0 ≤ (m246 a0 10) ∧ (m246 a0 10) ≤ 700 := zi_rd hIm246 hc0 zb_28_10
              have e252 : (m246 a0 10) = (mh a0 10) := (zs_ne hmm246 (Or.inr (by decide)))
              have hM : (700 - (m246 a0 7)) * 1 + 701 < (k : Int) := by omega
              exact ih.2.1  m246 hIm246 hFm246 ⟨by omega, by omega⟩ ⟨by omega, by omega⟩ (by omega) (by omega) hRNSm246 hRWDm246 hM
    · intro mh hImh hFmh hg0 hg1 hg2 hg3 hH0 hRNSmh hRWDmh hM
      refine zw_eq (zr_89_213 n a0 mh) ?_
      have r253 : 0 ≤ (mh a0 7) ∧ (mh a0 7) ≤ 700 := zi_rd hImh hc0 zb_28_7
      have s254 := hRNSmh a0 hc0
      refine zw_bd (zw_eq (zr_88_0 n a0 (mh a0 7) mh) ?_)
      refine zw_ite (fun h255 => ?_) (fun h255 => ?_)
      · refine zw_b (by omega) ?_
        refine zw_some ?_
        refine zw_ite (fun h256 => ?_) (fun h256 => ?_)
        · exact zw_some ⟨hImh, hFmh, hRNSmh, hRWDmh, trivial, by omega, by omega⟩
        · exfalso; omega
      · have b257 : 0 ≤ (mh a0 7) ∧ (mh a0 7) < 700 := by omega
        refine zw_if b257 ?_
        have r258 : (-2147483648) ≤ (mh 191 (mh a0 7)) ∧ (mh 191 (mh a0 7)) ≤ 2147483647 := zi_rd hImh zq_191 (zb_100 _)
        refine zw_ite (fun h259 => ?_) (fun h259 => ?_)
        · refine zw_b (by omega) ?_
          refine zw_some ?_
          refine zw_ite (fun h260 => ?_) (fun h260 => ?_)
          · exact zw_some ⟨hImh, hFmh, hRNSmh, hRWDmh, trivial, by omega, by omega⟩
          · exfalso; omega
        · have b261 : 0 ≤ (mh a0 7) ∧ (mh a0 7) < 700 := by omega
          refine zw_if b261 ?_
          refine zw_ite (fun h262 => ?_) (fun h262 => ?_)
          · refine zw_b (by omega) ?_
            refine zw_some ?_
            refine zw_ite (fun h263 => ?_) (fun h263 => ?_)
            · exact zw_some ⟨hImh, hFmh, hRNSmh, hRWDmh, trivial, by omega, by omega⟩
            · exfalso; omega
          · refine zw_b (by omega) ?_
            refine zw_some ?_
            refine zw_ite (fun h264 => ?_) (fun h264 => ?_)
            · exfalso; omega
            · refine zw_ite (fun h265 => ?_) (fun h265 => ?_)
              · have w266 := zu_w32_id (z := 10 * (mh a0 9)) (by omega) (by omega)
                have b267 : 0 ≤ (mh a0 7) ∧ (mh a0 7) < 700 := by omega
                refine zw_if b267 ?_
                have w268 := zu_w32_id (z := (zu_w32 (10 * (mh a0 9))) + (mh 191 (mh a0 7))) (by omega) (by omega)
                have w269 := zu_w32_id (z := (zu_w32 ((zu_w32 (10 * (mh a0 9))) + (mh 191 (mh a0 7)))) - 48) (by omega) (by omega)
                generalize hmm270 : zu_up mh a0 9 (zu_w32 ((zu_w32 ((zu_w32 (10 * (mh a0 9))) + (mh 191 (mh a0 7)))) - 48)) = m270
                have hIm270 := zi_up hmm270 hImh hc0 zb_28_9 (by omega) (by omega)
                have hFm270 := zfr_up hmm270 hFmh hc0 rfl
                have hRNSm270 := zR_NS_fr (zdis_fr (zfr_up hmm270 (zfr_rf [(28, 10)] _) hc0 rfl) rfl) hRNSmh
                have hRWDm270 := zR_WD_fr (zdis_fr (zfr_up hmm270 (zfr_rf [(28, 10)] _) hc0 rfl) rfl) hRWDmh
                have r271 : 0 ≤ (m270 a0 7) ∧ (m270 a0 7) ≤ 700 := zi_rd hIm270 hc0 zb_28_7
                have e272 : (m270 a0 7) = (mh a0 7) := (zs_ne hmm270 (Or.inr (by decide)))
                have w273 := zu_w32_id (z := (m270 a0 7) + 1) (by omega) (by omega)
                generalize hmm274 : zu_up m270 a0 7 (zu_w32 ((m270 a0 7) + 1)) = m274
                have hIm274 := zi_up hmm274 hIm270 hc0 zb_28_7 (by omega) (by omega)
                have hFm274 := zfr_up hmm274 hFm270 hc0 rfl
                have hRWDm274 := zR_WD_fr (zdis_fr (zfr_up hmm274 (zfr_rf [(28, 8)] _) hc0 rfl) rfl) hRWDm270
                have r275 : 0 ≤ (m274 a0 7) ∧ (m274 a0 7) ≤ 700 := zi_rd hIm274 hc0 zb_28_7
                have e276 : (m274 a0 7) = (zu_w32 ((m270 a0 7) + 1)) := (zs_eq hmm274)
                have r277 : 0 ≤ (m274 a0 6) ∧ (m274 a0 6) ≤ 700 := zi_rd hIm274 hc0 zb_28_6
                have e278 : (m274 a0 6) = (mh a0 6) := (Eq.trans (zs_ne hmm274 (Or.inr (by decide))) (zs_ne hmm270 (Or.inr (by decide))))
                have hRNSm274 := zR_NS_of hc0 (show m274 a0 7 ≤ m274 a0 6 by omega)
                have r279 : 0 ≤ (m274 a0 10) ∧ (m274 a0 10) ≤ 700 := zi_rd hIm274 hc0 zb_28_10
                have e280 : (m274 a0 10) = (mh a0 10) := (Eq.trans (zs_ne hmm274 (Or.inr (by decide))) (zs_ne hmm270 (Or.inr (by decide))))
                have r281 : 0 ≤ (m274 a0 8) ∧ (m274 a0 8) ≤ 6 := zi_rd hIm274 hc0 zb_28_8
                have e282 : (m274 a0 8) = (mh a0 8) := (Eq.trans (zs_ne hmm274 (Or.inr (by decide))) (zs_ne hmm270 (Or.inr (by decide))))
                have r283 : (-2147483648) ≤ (m274 a0 9) ∧ (m274 a0 9) ≤ 2147483647 := zi_rd hIm274 hc0 zb_28_9
                have e284 : (m274 a0 9) = (zu_w32 ((zu_w32 ((zu_w32 (10 * (mh a0 9))) + (mh 191 (mh a0 7)))) - 48)) := (Eq.trans (zs_ne hmm274 (Or.inr (by decide))) (zs_eq hmm270))
                have hM : (700 - (m274 a0 7)) * 1 + 0 < (k : Int) := by omega
                exact ih.2.2  m274 hIm274 hFm274 ⟨by omega, by omega⟩ ⟨by omega, by omega⟩ ⟨by omega, by omega⟩ ⟨by omega, by omega⟩ (by omega) hRNSm274 hRWDm274 hM
              · generalize hmm285 : zu_up mh a0 9 (mh a0 9) = m285
                have hIm285 := zi_up hmm285 hImh hc0 zb_28_9 (by omega) (by omega)
                have hFm285 := zfr_up hmm285 hFmh hc0 rfl
                have hRNSm285 := zR_NS_fr (zdis_fr (zfr_up hmm285 (zfr_rf [(28, 10)] _) hc0 rfl) rfl) hRNSmh
                have hRWDm285 := zR_WD_fr (zdis_fr (zfr_up hmm285 (zfr_rf [(28, 10)] _) hc0 rfl) rfl) hRWDmh
                have r286 : 0 ≤ (m285 a0 7) ∧ (m285 a0 7) ≤ 700 := zi_rd hIm285 hc0 zb_28_7
                have e287 : (m285 a0 7) = (mh a0 7) := (zs_ne hmm285 (Or.inr (by decide)))
                have w288 := zu_w32_id (z := (m285 a0 7) + 1) (by omega) (by omega)
                generalize hmm289 : zu_up m285 a0 7 (zu_w32 ((m285 a0 7) + 1)) = m289
                have hIm289 := zi_up hmm289 hIm285 hc0 zb_28_7 (by omega) (by omega)
                have hFm289 := zfr_up hmm289 hFm285 hc0 rfl
                have hRWDm289 := zR_WD_fr (zdis_fr (zfr_up hmm289 (zfr_rf [(28, 8)] _) hc0 rfl) rfl) hRWDm285
                have r290 : 0 ≤ (m289 a0 7) ∧ (m289 a0 7) ≤ 700 := zi_rd hIm289 hc0 zb_28_7
                have e291 : (m289 a0 7) = (zu_w32 ((m285 a0 7) + 1)) := (zs_eq hmm289)
                have r292 : 0 ≤ (m289 a0 6) ∧ (m289 a0 6) ≤ 700 := zi_rd hIm289 hc0 zb_28_6
                have e293 : (m289 a0 6) = (mh a0 6) := (Eq.trans (zs_ne hmm289 (Or.inr (by decide))) (zs_ne hmm285 (Or.inr (by decide))))
                have hRNSm289 := zR_NS_of hc0 (show m289 a0 7 ≤ m289 a0 6 by omega)
                have r294 : 0 ≤ (m289 a0 10) ∧ (m289 a0 10) ≤ 700 := zi_rd hIm289 hc0 zb_28_10
                have e295 : (m289 a0 10) = (mh a0 10) := (Eq.trans (zs_ne hmm289 (Or.inr (by decide))) (zs_ne hmm285 (Or.inr (by decide))))
                have r296 : 0 ≤ (m289 a0 8) ∧ (m289 a0 8) ≤ 6 := zi_rd hIm289 hc0 zb_28_8
                have e297 : (m289 a0 8) = (mh a0 8) := (Eq.trans (zs_ne hmm289 (Or.inr (by decide))) (zs_ne hmm285 (Or.inr (by decide))))
                have r298 : (-2147483648) ≤ (m289 a0 9) ∧ (m289 a0 9) ≤ 2147483647 := zi_rd hIm289 hc0 zb_28_9
                have e299 : (m289 a0 9) = (mh a0 9) := (Eq.trans (zs_ne hmm289 (Or.inr (by decide))) (zs_eq hmm285))
                have hM : (700 - (m289 a0 7)) * 1 + 0 < (k : Int) := by omega
                exact ih.2.2  m289 hIm289 hFm289 ⟨by omega, by omega⟩ ⟨by omega, by omega⟩ ⟨by omega, by omega⟩ ⟨by omega, by omega⟩ (by omega) hRNSm289 hRWDm289 hM
set_option maxHeartbeats 4000000 in
theorem zk_89 (n : Nat) {a0 : Int} {m0 : zu_m} (hIm0 : zi_I m0) (hc0 : zcls a0 = 28)     (hRNSm0 : zR_NS m0) (hRWDm0 : zR_WD m0) : zw (zu_call (zt_T n) 89 [(40, a0)] m0) (fun v m => zi_I m ∧ zfr [(28, 8), (28, 9), (28, 10), (28, 11)] m0 m ∧ zR_NS m ∧ zR_WD m ∧ True ∧ ((m0 a0 7) ≤ (m a0 7)) ∧ ((m a0 8) = 0 ∨ (m0 a0 7) < (m a0 7))) := by
  have hFm0 : zfr [(28, 8), (28, 9), (28, 10), (28, 11)] m0 m0 := zfr_rf _ _
  have s300 := hRNSm0 a0 hc0
  show zw (zu_ex (zt_T n) 89 0 [(40, a0)] [] m0) _
  have r301 : 0 ≤ (m0 a0 7) ∧ (m0 a0 7) ≤ 700 := zi_rd hIm0 hc0 zb_28_7
  have hM : (700 - (m0 a0 7)) * 1 + 1402 < ((2103 : Nat) : Int) := by omega
  exact (zl_89 n (m0 := m0) hc0 2103).1  m0 hIm0 hFm0 (by omega) hRNSm0 hRWDm0 hM
set_option maxHeartbeats 4000000 in
theorem zk_108 (n : Nat) {a0 a1 : Int} {m0 : zu_m} (hIm0 : zi_I m0) (hc0 : zcls a0 = 28) (ha1 : (-2147483648) ≤ a1 ∧ a1 ≤ 2147483647)     : zw (zu_call (zt_T n) 108 [(40, a0), (0, a1)] m0) (fun v m => zi_I m ∧ zfr [(28, 3)] m0 m ∧ ((-1) ≤ v ∧ v ≤ 3) ∧ (0 ≤ m a0 2 ∧ m a0 2 ≤ 0)) := by
  have hFm0 : zfr [(28, 3)] m0 m0 := zfr_rf _ _
  refine zw_eq (zr_108_0 n a0 a1 m0) ?_
  generalize hmm1 : zu_up m0 a0 2 0 = m1
  have hIm1 := zi_up hmm1 hIm0 hc0 zb_28_2 (by omega) (by omega)
  have hFm1 := zfr_up hmm1 hFm0 hc0 rfl
  have r2 : 0 ≤ (m1 a0 15) ∧ (m1 a0 15) ≤ 4 := zi_rd hIm1 hc0 zb_28_15
  refine zw_bd (zw_mono (zk_95 n hIm1 zq_200 ⟨by omega, by omega⟩ ⟨by omega, by omega⟩ ⟨by omega, by omega⟩) (fun v4 m3 hqm3 => ?_))
  obtain ⟨hIm3, hfm3, hvm3⟩ := hqm3
  have hFm3 := zfr_tr hFm1 hfm3 rfl
  have r5 : (-2147483648) ≤ (m3 a0 2) ∧ (m3 a0 2) ≤ 2147483647 := zi_rd hIm3 hc0 zb_28_2
  have e6 : (m3 a0 2) = 0 := (Eq.trans (zfr_ap hfm3 hc0 rfl) (zs_eq hmm1))
  exact zw_some ⟨hIm3, hFm3, ⟨by omega, by omega⟩, ⟨by omega, by omega⟩⟩
set_option maxHeartbeats 4000000 in
theorem zk_112 (n : Nat) {a0 a1 : Int} {m0 : zu_m} (hIm0 : zi_I m0) (hc0 : zcls a0 = 28) (ha1 : 0 ≤ a1 ∧ a1 ≤ 6)     : zw (zu_call (zt_T n) 112 [(40, a0), (0, a1)] m0) (fun v m => zi_I m ∧ zfr [(28, 22), (28, 46), (28, 47), (117, 0), (118, 0), (119, 0), (121, 0)] m0 m ∧ True) := by
  sorry
set_option maxHeartbeats 4000000 in
theorem zk_122 (n : Nat) {a0 a1 : Int} {m0 : zu_m} (hIm0 : zi_I m0) (hc0 : zcls a0 = 28) (ha1 : 0 ≤ a1 ∧ a1 ≤ 63)     : zw (zu_call (zt_T n) 122 [(40, a0), (0, a1)] m0) (fun v m => zi_I m ∧ zfr [(28, 54)] m0 m ∧ ((-9223372036854775808) ≤ v ∧ v ≤ 9223372036854775807)) := by
  sorry
set_option maxHeartbeats 4000000 in
theorem zl_126 (n : Nat) {a0 : Int} {m0 : zu_m} (hc0 : zcls a0 = 28)   : ∀ k : Nat, (∀ (x1 : Int) (mh : zu_m), zi_I mh → zfr [(28, 65), (28, 66), (28, 67), (28, 68), (28, 69), (28, 70), (124, 0), (125, 2), (126, 0), (127, 0), (129, 0), (130, 0)] m0 mh → (0 ≤ x1 ∧ x1 ≤ 18) → (18 - x1) * 1 + 5 < (k : Int) → zw (zu_ex (zt_T n) 126 2 [(40, a0), (0, x1)] [] mh) (fun v m => zi_I m ∧ zfr [(28, 65), (28, 66), (28, 67), (28, 68), (28, 69), (28, 70), (124, 0), (125, 2), (126, 0), (127, 0), (129, 0), (130, 0)] m0 m ∧ True ∧ (0 ≤ m 216 1 ∧ m 216 1 ≤ 16))) ∧ (∀ (x1 : Int) (mh : zu_m), zi_I mh → zfr [(28, 65), (28, 66), (28, 67), (28, 68), (28, 69), (28, 70), (124, 0), (125, 2), (126, 0), (127, 0), (129, 0), (130, 0)] m0 mh → (0 ≤ x1 ∧ x1 ≤ 4) → (0 ≤ mh 216 1 ∧ mh 216 1 ≤ 16) → (4 - x1) * 1 + 0 < (k : Int) → zw (zu_ex (zt_T n) 126 43 [(40, a0), (0, x1)] [] mh) (fun v m => zi_I m ∧ zfr [(28, 65), (28, 66), (28, 67), (28, 68), (28, 69), (28, 70), (124, 0), (125, 2), (126, 0), (127, 0), (129, 0), (130, 0)] m0 m ∧ True ∧ (0 ≤ m 216 1 ∧ m 216 1 ≤ 16))) := by
  intro k
  induction k with
  | zero => exact ⟨fun x1 mh hImh hFmh hbx1 hM => by exfalso; omega, fun x1 mh hImh hFmh hbx1 hg1 hM => by exfalso; omega⟩
  | succ k ih =>
    refine ⟨?_, ?_⟩
    · intro x1 mh hImh hFmh hbx1 hM
      refine zw_eq (zr_126_2 n a0 x1 mh) ?_
      refine zw_ite (fun h1 => ?_) (fun h1 => ?_)
      · have b2 : 0 ≤ (0 : Int) ∧ (0 : Int) < 2 := by omega
        refine zw_if b2 ?_
        have r3 : 0 ≤ (mh 216 0) ∧ (mh 216 0) ≤ 16 := zi_rdr (m := 2) (r0 := 0) (r1 := 0) hImh zq_216 (by omega) (by decide +kernel)
        have b4 : 0 ≤ (1 : Int) ∧ (1 : Int) < 2 := by omega
        refine zw_if b4 ?_
        generalize hmm5 : zu_up mh 216 1 (mh 216 0) = m5
        have hIm5 := zi_upr (m := 2) (r0 := 1) (r1 := 1) (lo := 0) (hi := 18) hmm5 hImh zq_216 (by omega) (by decide +kernel) (by omega) (by omega)
        have hFm5 := zfr_up hmm5 hFmh zq_216 rfl
        have r6 : 0 ≤ (m5 216 1) ∧ (m5 216 1) ≤ 18 := zi_rdr (m := 2) (r0 := 1) (r1 := 1) hIm5 zq_216 (by omega) (by decide +kernel)
        have e7 : (m5 216 1) = (mh 216 0) := (zs_eq hmm5)
        have hM : (4 - 0) * 1 + 0 < (k : Int) := by omega
        exact ih.2 0 m5 hIm5 hFm5 ⟨by omega, by omega⟩ ⟨by omega, by omega⟩ hM
      · have w8 := zu_w32_id (z := 18 + x1) (by omega) (by omega)
        have b9 : 0 ≤ x1 ∧ x1 < 36 := by omega
        refine zw_if b9 ?_
        have r10 : (-3) ≤ (mh 215 x1) ∧ (mh 215 x1) ≤ 3 := zi_rd hImh zq_215 (zb_124 _)
        have b11 : 0 ≤ (zu_w32 (18 + x1)) ∧ (zu_w32 (18 + x1)) < 36 := by omega
        refine zw_if b11 ?_
        generalize hmm12 : zu_up mh 215 (zu_w32 (18 + x1)) (mh 215 x1) = m12
        have hIm12 := zi_up hmm12 hImh zq_215 (zb_124 _) (by omega) (by omega)
        have hFm12 := zfr_up hmm12 hFmh zq_215 rfl
        have w13 := zu_w32_id (z := x1 + 1) (by omega) (by omega)
        have hM : (18 - (zu_w32 (x1 + 1))) * 1 + 5 < (k : Int) := by omega
        exact ih.1 (zu_w32 (x1 + 1)) m12 hIm12 hFm12 ⟨by omega, by omega⟩ hM
    · intro x1 mh hImh hFmh hbx1 hg1 hM
      refine zw_eq (zr_126_43 n a0 x1 mh) ?_
      refine zw_ite (fun h14 => ?_) (fun h14 => ?_)
      · have b15 : 0 ≤ (0 : Int) ∧ (0 : Int) < 2 := by omega
        refine zw_if b15 ?_
        have r16 : (-9223372036854775808) ≤ (mh 220 0) ∧ (mh 220 0) ≤ 9223372036854775807 := zi_rd hImh zq_220 (zb_129 _)
        have b17 : 0 ≤ (1 : Int) ∧ (1 : Int) < 2 := by omega
        refine zw_if b17 ?_
        generalize hmm18 : zu_up mh 220 1 (mh 220 0) = m18
        have hIm18 := zi_up hmm18 hImh zq_220 (zb_129 _) (by omega) (by omega)
        have hFm18 := zfr_up hmm18 hFmh zq_220 rfl
        have b19 : 0 ≤ (0 : Int) ∧ (0 : Int) < 2 := by omega
        refine zw_if b19 ?_
        have r20 : (-2147483648) ≤ (m18 221 0) ∧ (m18 221 0) ≤ 2147483647 := zi_rd hIm18 zq_221 (zb_130 _)
        have b21 : 0 ≤ (1 : Int) ∧ (1 : Int) < 2 := by omega
        refine zw_if b21 ?_
        generalize hmm22 : zu_up m18 221 1 (m18 221 0) = m22
        have hIm22 := zi_up hmm22 hIm18 zq_221 (zb_130 _) (by omega) (by omega)
        have hFm22 := zfr_up hmm22 hFm18 zq_221 rfl
        refine zw_bd (zw_mono (zk_35 n hIm22 hc0) (fun v24 m23 hqm23 => ?_))
        obtain ⟨hIm23, hfm23, hvm23⟩ := hqm23
        have hFm23 := zfr_tr hFm22 hfm23 rfl
        have r25 : 0 ≤ (m23 216 1) ∧ (m23 216 1) ≤ 18 := zi_rdr (m := 2) (r0 := 1) (r1 := 1) hIm23 zq_216 (by omega) (by decide +kernel)
        have e26 : (m23 216 1) = (mh 216 1) := (Eq.trans (zfr_ap hfm23 zq_216 rfl) (Eq.trans (zs_ne hmm22 (Or.inl (zc_ne zq_216 zq_221 (by decide)))) (zs_ne hmm18 (Or.inl (zc_ne zq_216 zq_220 (by decide))))))
        exact zw_some ⟨hIm23, hFm23, trivial, ⟨by omega, by omega⟩⟩
      · have w27 := zu_w32_id (z := 4 + x1) (by omega) (by omega)
        have b28 : 0 ≤ x1 ∧ x1 < 8 := by omega
        refine zw_if b28 ?_
        have r29 : 0 ≤ (mh 217 x1) ∧ (mh 217 x1) ≤ 47 := zi_rd hImh zq_217 (zb_126 _)
        have b30 : 0 ≤ (zu_w32 (4 + x1)) ∧ (zu_w32 (4 + x1)) < 8 := by omega
        refine zw_if b30 ?_
        generalize hmm31 : zu_up mh 217 (zu_w32 (4 + x1)) (mh 217 x1) = m31
        have hIm31 := zi_up hmm31 hImh zq_217 (zb_126 _) (by omega) (by omega)
        have hFm31 := zfr_up hmm31 hFmh zq_217 rfl
        have b32 : 0 ≤ x1 ∧ x1 < 8 := by omega
        refine zw_if b32 ?_
        have r33 : (-2147483648) ≤ (m31 218 x1) ∧ (m31 218 x1) ≤ 2147483647 := zi_rd hIm31 zq_218 (zb_127 _)
        have b34 : 0 ≤ (zu_w32 (4 + x1)) ∧ (zu_w32 (4 + x1)) < 8 := by omega
        refine zw_if b34 ?_
        generalize hmm35 : zu_up m31 218 (zu_w32 (4 + x1)) (m31 218 x1) = m35
        have hIm35 := zi_up hmm35 hIm31 zq_218 (zb_127 _) (by omega) (by omega)
        have hFm35 := zfr_up hmm35 hFm31 zq_218 rfl
        have w36 := zu_w32_id (z := x1 + 1) (by omega) (by omega)
        have r37 : 0 ≤ (m35 216 1) ∧ (m35 216 1) ≤ 18 := zi_rdr (m := 2) (r0 := 1) (r1 := 1) hIm35 zq_216 (by omega) (by decide +kernel)
        have e38 : (m35 216 1) = (mh 216 1) := (Eq.trans (zs_ne hmm35 (Or.inl (zc_ne zq_216 zq_218 (by decide)))) (zs_ne hmm31 (Or.inl (zc_ne zq_216 zq_217 (by decide)))))
        have hM : (4 - (zu_w32 (x1 + 1))) * 1 + 0 < (k : Int) := by omega
        exact ih.2 (zu_w32 (x1 + 1)) m35 hIm35 hFm35 ⟨by omega, by omega⟩ ⟨by omega, by omega⟩ hM
set_option maxHeartbeats 4000000 in
theorem zk_126 (n : Nat) {a0 : Int} {m0 : zu_m} (hIm0 : zi_I m0) (hc0 : zcls a0 = 28)      : zw (zu_call (zt_T n) 126 [(40, a0)] m0) (fun v m => zi_I m ∧ zfr [(28, 65), (28, 66), (28, 67), (28, 68), (28, 69), (28, 70), (124, 0), (125, 2), (126, 0), (127, 0), (129, 0), (130, 0)] m0 m ∧ True ∧ (0 ≤ m 216 1 ∧ m 216 1 ≤ 16)) := by
  have hFm0 : zfr [(28, 65), (28, 66), (28, 67), (28, 68), (28, 69), (28, 70), (124, 0), (125, 2), (126, 0), (127, 0), (129, 0), (130, 0)] m0 m0 := zfr_rf _ _
  refine zw_eq (zr_126_0 n a0 m0) ?_
  have hM : (18 - 0) * 1 + 5 < ((24 : Nat) : Int) := by omega
  exact (zl_126 n (m0 := m0) hc0 24).1 0 m0 hIm0 hFm0 ⟨by omega, by omega⟩ hM
set_option maxHeartbeats 4000000 in
theorem zk_134 (n : Nat) {a0 a1 a2 : Int} {m0 : zu_m} (hIm0 : zi_I m0) (hc0 : zcls a0 = 28) (ha1 : 0 ≤ a1 ∧ a1 ≤ 3) (ha2 : 0 ≤ a2 ∧ a2 ≤ 47)     : zw (zu_call (zt_T n) 134 [(40, a0), (0, a1), (0, a2)] m0) (fun v m => zi_I m ∧ zfr [] m0 m ∧ (0 ≤ v ∧ v ≤ 1)) := by
  have hFm0 : zfr [] m0 m0 := zfr_rf _ _
  refine zw_eq (zr_134_0 n a0 a1 a2 m0) ?_
  have r1 : (-2147483648) ≤ (m0 a0 64) ∧ (m0 a0 64) ≤ 2147483647 := zi_rd hIm0 hc0 zb_28_64
  refine zw_ite (fun h2 => ?_) (fun h2 => ?_)
  · refine zw_b (by omega) ?_
    exact zw_some ⟨hIm0, hFm0, ⟨by omega, by omega⟩⟩
  · refine zw_bd (zw_eq (zr_128_0 n a0 a1 m0) ?_)
    have r3 : 0 ≤ (m0 a0 68) ∧ (m0 a0 68) ≤ 1 := zi_rd hIm0 hc0 zb_28_68
    refine zw_ite (fun h4 => ?_) (fun h4 => ?_)
    · have b5 : 0 ≤ a1 ∧ a1 < 8 := by omega
      refine zw_if b5 ?_
      have r6 : 0 ≤ (m0 202 a1) ∧ (m0 202 a1) ≤ 15 := zi_rd hIm0 zq_202 (zb_111 _)
      refine zw_some ?_
      refine zw_ite (fun h7 => ?_) (fun h7 => ?_)
      · refine zw_b (by omega) ?_
        exact zw_some ⟨hIm0, hFm0, ⟨by omega, by omega⟩⟩
      · have r8 : 1 ≤ (m0 a0 12) ∧ (m0 a0 12) ≤ 8 := zi_rd hIm0 hc0 zb_28_12
        refine zw_nif (by omega) ?_
        have d9 := ztdiv_bd (x := a2) (y := (m0 a0 12)) (by omega) (by omega)
        have w10 := zu_w32_id (z := Int.tdiv a2 (m0 a0 12)) (by omega) (by omega)
        have b11 : 0 ≤ (1 : Int) ∧ (1 : Int) < 10 := by omega
        refine zw_if b11 ?_
        have r12 : (-1) ≤ (m0 194 1) ∧ (m0 194 1) ≤ 99999 := zi_rd hIm0 zq_194 (zb_103 _)
        refine zw_ite (fun h13 => ?_) (fun h13 => ?_)
        · refine zw_b (by omega) ?_
          exact zw_some ⟨hIm0, hFm0, ⟨by omega, by omega⟩⟩
        · refine zw_b (by omega) ?_
          exact zw_some ⟨hIm0, hFm0, ⟨by omega, by omega⟩⟩
    · refine zw_some ?_
      refine zw_ite (fun h14 => ?_) (fun h14 => ?_)
      · exfalso; omega
      · have r15 : 1 ≤ (m0 a0 12) ∧ (m0 a0 12) ≤ 8 := zi_rd hIm0 hc0 zb_28_12
        refine zw_nif (by omega) ?_
        have d16 := ztdiv_bd (x := a2) (y := (m0 a0 12)) (by omega) (by omega)
        have w17 := zu_w32_id (z := Int.tdiv a2 (m0 a0 12)) (by omega) (by omega)
        have b18 : 0 ≤ (1 : Int) ∧ (1 : Int) < 10 := by omega
        refine zw_if b18 ?_
        have r19 : (-1) ≤ (m0 194 1) ∧ (m0 194 1) ≤ 99999 := zi_rd hIm0 zq_194 (zb_103 _)
        refine zw_ite (fun h20 => ?_) (fun h20 => ?_)
        · refine zw_b (by omega) ?_
          exact zw_some ⟨hIm0, hFm0, ⟨by omega, by omega⟩⟩
        · refine zw_b (by omega) ?_
          exact zw_some ⟨hIm0, hFm0, ⟨by omega, by omega⟩⟩
set_option maxHeartbeats 4000000 in
theorem zl_141 (n : Nat) {a0 a1 : Int} {m0 : zu_m} (hc0 : zcls a0 = 28)   : ∀ k : Nat, (∀ (x2 x3 x4 : Int) (mh : zu_m), zi_I mh → zfr [] m0 mh → (0 ≤ a1 ∧ a1 ≤ 1) → (0 ≤ x2 ∧ x2 ≤ 2147483647) → ((-2147483648) ≤ x3 ∧ x3 ≤ 99) → (0 ≤ x4 ∧ x4 ≤ 4) → (4 - x4) * 1 + 0 < (k : Int) → zw (zu_ex (zt_T n) 141 8 [(40, a0), (0, a1), (0, x2), (0, x3), (0, x4), (2, 0)] [] mh) (fun v m => zi_I m ∧ zfr [] m0 m ∧ ((-2147483648) ≤ v ∧ v ≤ 2147483647))) := by
  intro k
  induction k with
  | zero => exact fun x2 x3 x4 mh hImh hFmh hba1 hbx2 hbx3 hbx4 hM => by exfalso; omega
  | succ k ih =>
    intro x2 x3 x4 mh hImh hFmh hba1 hbx2 hbx3 hbx4 hM
    refine zw_eq (zr_141_8 n a0 a1 x2 x3 x4 mh) ?_
    have r1 : 0 ≤ (mh a0 15) ∧ (mh a0 15) ≤ 4 := zi_rd hImh hc0 zb_28_15
    refine zw_ite (fun h2 => ?_) (fun h2 => ?_)
    · refine zw_ite (fun h3 => ?_) (fun h3 => ?_)
      · have w4 := zu_w32_rg (x2 - x3)
        exact zw_some ⟨hImh, hFmh, ⟨by omega, by omega⟩⟩
      · exact zw_some ⟨hImh, hFmh, ⟨by omega, by omega⟩⟩
    · refine zw_bd (zw_mono (zk_130 n hImh hc0 ⟨by omega, by omega⟩ ⟨by omega, by omega⟩) (fun v6 m5 hqm5 => ?_))
      obtain ⟨hIm5, hfm5, hvm5⟩ := hqm5
      have hFm5 := zfr_tr hFmh hfm5 rfl
      refine zw_ite (fun h7 => ?_) (fun h7 => ?_)
      · refine zw_ite (fun h8 => ?_) (fun h8 => ?_)
        · have w9 := zu_w32_id (z := x4 + 1) (by omega) (by omega)
          have hM : (4 - (zu_w32 (x4 + 1))) * 1 + 0 < (k : Int) := by omega
          exact zw_le (zu_forget (zu_lr_same (zu_lr_same (zu_lr_same (zu_lr_same (zu_lr_same (zu_lr_drop zu_lr_nil))))))) (ih x2 x3 (zu_w32 (x4 + 1)) m5 hIm5 hFm5 ⟨by omega, by omega⟩ ⟨by omega, by omega⟩ ⟨by omega, by omega⟩ ⟨by omega, by omega⟩ hM)
        · have w10 := zu_w32_id (z := x4 + 1) (by omega) (by omega)
          have hM : (4 - (zu_w32 (x4 + 1))) * 1 + 0 < (k : Int) := by omega
          exact zw_le (zu_forget (zu_lr_same (zu_lr_same (zu_lr_same (zu_lr_same (zu_lr_same (zu_lr_drop zu_lr_nil))))))) (ih x2 v6 (zu_w32 (x4 + 1)) m5 hIm5 hFm5 ⟨by omega, by omega⟩ ⟨by omega, by omega⟩ ⟨by omega, by omega⟩ ⟨by omega, by omega⟩ hM)
      · refine zw_ite (fun h11 => ?_) (fun h11 => ?_)
        · have w12 := zu_w32_id (z := x4 + 1) (by omega) (by omega)
          have hM : (4 - (zu_w32 (x4 + 1))) * 1 + 0 < (k : Int) := by omega
          exact zw_le (zu_forget (zu_lr_same (zu_lr_same (zu_lr_same (zu_lr_same (zu_lr_same (zu_lr_drop zu_lr_nil))))))) (ih v6 x3 (zu_w32 (x4 + 1)) m5 hIm5 hFm5 ⟨by omega, by omega⟩ ⟨by omega, by omega⟩ ⟨by omega, by omega⟩ ⟨by omega, by omega⟩ hM)
        · have w13 := zu_w32_id (z := x4 + 1) (by omega) (by omega)
          have hM : (4 - (zu_w32 (x4 + 1))) * 1 + 0 < (k : Int) := by omega
          exact zw_le (zu_forget (zu_lr_same (zu_lr_same (zu_lr_same (zu_lr_same (zu_lr_same (zu_lr_drop zu_lr_nil))))))) (ih v6 v6 (zu_w32 (x4 + 1)) m5 hIm5 hFm5 ⟨by omega, by omega⟩ ⟨by omega, by omega⟩ ⟨by omega, by omega⟩ ⟨by omega, by omega⟩ hM)
set_option maxHeartbeats 4000000 in
theorem zk_141 (n : Nat) {a0 a1 : Int} {m0 : zu_m} (hIm0 : zi_I m0) (hc0 : zcls a0 = 28) (ha1 : 0 ≤ a1 ∧ a1 ≤ 1)     : zw (zu_call (zt_T n) 141 [(40, a0), (0, a1)] m0) (fun v m => zi_I m ∧ zfr [] m0 m ∧ ((-2147483648) ≤ v ∧ v ≤ 2147483647)) := by
  have hFm0 : zfr [] m0 m0 := zfr_rf _ _
  refine zw_eq (zr_141_0 n a0 a1 m0) ?_
  have hM : (4 - 0) * 1 + 0 < ((5 : Nat) : Int) := by omega
  exact (zl_141 n (m0 := m0) hc0 5) 0 99 0 m0 hIm0 hFm0 ⟨by omega, by omega⟩ ⟨by omega, by omega⟩ ⟨by omega, by omega⟩ ⟨by omega, by omega⟩ hM
set_option maxHeartbeats 4000000 in
theorem zk_144 (n : Nat) {a0 a1 a2 : Int} {m0 : zu_m} (hIm0 : zi_I m0) (hc0 : zcls a0 = 28) (ha1 : (-2147483648) ≤ a1 ∧ a1 ≤ 2147483647) (ha2 : (-2147483648) ≤ a2 ∧ a2 ≤ 2147483647)     : zw (zu_call (zt_T n) 144 [(40, a0), (0, a1), (0, a2)] m0) (fun v m => zi_I m ∧ zfr [(28, 3)] m0 m ∧ ((-4) ≤ v ∧ v ≤ 47) ∧ (0 ≤ m a0 2 ∧ m a0 2 ≤ 0)) := by
  have hFm0 : zfr [(28, 3)] m0 m0 := zfr_rf _ _
  refine zw_eq (zr_144_0 n a0 a1 a2 m0) ?_
  generalize hmm1 : zu_up m0 a0 2 0 = m1
  have hIm1 := zi_up hmm1 hIm0 hc0 zb_28_2 (by omega) (by omega)
  have hFm1 := zfr_up hmm1 hFm0 hc0 rfl
  refine zw_bd (zw_eq (zr_124_0 n a0 a1 m1) ?_)
  refine zw_ite (fun h2 => ?_) (fun h2 => ?_)
  · refine zw_b (by omega) ?_
    refine zw_some ?_
    refine zw_ite (fun h3 => ?_) (fun h3 => ?_)
    · exfalso; omega
    · have r4 : (-2147483648) ≤ (m1 a0 2) ∧ (m1 a0 2) ≤ 2147483647 := zi_rd hIm1 hc0 zb_28_2
      have e5 : (m1 a0 2) = 0 := (zs_eq hmm1)
      exact zw_some ⟨hIm1, hFm1, ⟨by omega, by omega⟩, ⟨by omega, by omega⟩⟩
  · have b6 : 0 ≤ (0 : Int) ∧ (0 : Int) < 2 := by omega
    refine zw_if b6 ?_
    have r7 : 0 ≤ (m1 216 0) ∧ (m1 216 0) ≤ 16 := zi_rdr (m := 2) (r0 := 0) (r1 := 0) hIm1 zq_216 (by omega) (by decide +kernel)
    refine zw_ite (fun h8 => ?_) (fun h8 => ?_)
    · refine zw_b (by omega) ?_
      refine zw_some ?_
      refine zw_ite (fun h9 => ?_) (fun h9 => ?_)
      · exfalso; omega
      · have r10 : (-2147483648) ≤ (m1 a0 2) ∧ (m1 a0 2) ≤ 2147483647 := zi_rd hIm1 hc0 zb_28_2
        have e11 : (m1 a0 2) = 0 := (zs_eq hmm1)
        exact zw_some ⟨hIm1, hFm1, ⟨by omega, by omega⟩, ⟨by omega, by omega⟩⟩
    · refine zw_b (by omega) ?_
      refine zw_some ?_
      refine zw_ite (fun h12 => ?_) (fun h12 => ?_)
      · refine zw_ite (fun h13 => ?_) (fun h13 => ?_)
        · have b14 : 0 ≤ a1 ∧ a1 < 36 := by omega
          refine zw_if b14 ?_
          have r15 : 0 ≤ (m1 197 a1) ∧ (m1 197 a1) ≤ 47 := zi_rd hIm1 zq_197 (zb_106 _)
          have r16 : (-2147483648) ≤ (m1 a0 2) ∧ (m1 a0 2) ≤ 2147483647 := zi_rd hIm1 hc0 zb_28_2
          have e17 : (m1 a0 2) = 0 := (zs_eq hmm1)
          exact zw_some ⟨hIm1, hFm1, ⟨by omega, by omega⟩, ⟨by omega, by omega⟩⟩
        · refine zw_ite (fun h18 => ?_) (fun h18 => ?_)
          · have b19 : 0 ≤ a1 ∧ a1 < 36 := by omega
            refine zw_if b19 ?_
            have r20 : 0 ≤ (m1 198 a1) ∧ (m1 198 a1) ≤ 3 := zi_rd hIm1 zq_198 (zb_107 _)
            have r21 : (-2147483648) ≤ (m1 a0 2) ∧ (m1 a0 2) ≤ 2147483647 := zi_rd hIm1 hc0 zb_28_2
            have e22 : (m1 a0 2) = 0 := (zs_eq hmm1)
            exact zw_some ⟨hIm1, hFm1, ⟨by omega, by omega⟩, ⟨by omega, by omega⟩⟩
          · refine zw_ite (fun h23 => ?_) (fun h23 => ?_)
            · have b24 : 0 ≤ a1 ∧ a1 < 36 := by omega
              refine zw_if b24 ?_
              have r25 : 0 ≤ (m1 199 a1) ∧ (m1 199 a1) ≤ 9 := zi_rd hIm1 zq_199 (zb_108 _)
              have r26 : (-2147483648) ≤ (m1 a0 2) ∧ (m1 a0 2) ≤ 2147483647 := zi_rd hIm1 hc0 zb_28_2
              have e27 : (m1 a0 2) = 0 := (zs_eq hmm1)
              exact zw_some ⟨hIm1, hFm1, ⟨by omega, by omega⟩, ⟨by omega, by omega⟩⟩
            · refine zw_ite (fun h28 => ?_) (fun h28 => ?_)
              · have b29 : 0 ≤ a1 ∧ a1 < 36 := by omega
                refine zw_if b29 ?_
                have r30 : (-3) ≤ (m1 215 a1) ∧ (m1 215 a1) ≤ 3 := zi_rd hIm1 zq_215 (zb_124 _)
                have r31 : (-2147483648) ≤ (m1 a0 2) ∧ (m1 a0 2) ≤ 2147483647 := zi_rd hIm1 hc0 zb_28_2
                have e32 : (m1 a0 2) = 0 := (zs_eq hmm1)
                exact zw_some ⟨hIm1, hFm1, ⟨by omega, by omega⟩, ⟨by omega, by omega⟩⟩
              · have r33 : (-2147483648) ≤ (m1 a0 2) ∧ (m1 a0 2) ≤ 2147483647 := zi_rd hIm1 hc0 zb_28_2
                have e34 : (m1 a0 2) = 0 := (zs_eq hmm1)
                exact zw_some ⟨hIm1, hFm1, ⟨by omega, by omega⟩, ⟨by omega, by omega⟩⟩
      · exfalso; omega
set_option maxHeartbeats 4000000 in
theorem zl_156 (n : Nat) {a0 : Int} {m0 : zu_m} (hc0 : zcls a0 = 28)   : ∀ k : Nat, (∀ (x1 : Int) (mh : zu_m), zi_I mh → zfr [(28, 65), (28, 66), (28, 67), (28, 68), (28, 69), (28, 70), (132, 0)] m0 mh → (0 ≤ x1 ∧ x1 ≤ 48) → (48 - x1) * 1 + 0 < (k : Int) → zw (zu_ex (zt_T n) 156 6 [(40, a0), (0, x1)] [] mh) (fun v m => zi_I m ∧ zfr [(28, 65), (28, 66), (28, 67), (28, 68), (28, 69), (28, 70), (132, 0)] m0 m ∧ True)) := by
  intro k
  induction k with
  | zero => exact fun x1 mh hImh hFmh hbx1 hM => by exfalso; omega
  | succ k ih =>
    intro x1 mh hImh hFmh hbx1 hM
    refine zw_eq (zr_156_6 n a0 x1 mh) ?_
    refine zw_ite (fun h1 => ?_) (fun h1 => ?_)
    · exact zw_some ⟨hImh, hFmh, trivial⟩
    · have b2 : 0 ≤ x1 ∧ x1 < 48 := by omega
      refine zw_if b2 ?_
      have r3 : (-2147483648) ≤ (mh 222 x1) ∧ (mh 222 x1) ≤ 2147483647 := zi_rd hImh zq_222 (zb_131 _)
      have b4 : 0 ≤ x1 ∧ x1 < 48 := by omega
      refine zw_if b4 ?_
      generalize hmm5 : zu_up mh 223 x1 (mh 222 x1) = m5
      have hIm5 := zi_up hmm5 hImh zq_223 (zb_132 _) (by omega) (by omega)
      have hFm5 := zfr_up hmm5 hFmh zq_223 rfl
      have w6 := zu_w32_id (z := x1 + 1) (by omega) (by omega)
      have hM : (48 - (zu_w32 (x1 + 1))) * 1 + 0 < (k : Int) := by omega
      exact ih (zu_w32 (x1 + 1)) m5 hIm5 hFm5 ⟨by omega, by omega⟩ hM
set_option maxHeartbeats 4000000 in
theorem zk_156 (n : Nat) {a0 : Int} {m0 : zu_m} (hIm0 : zi_I m0) (hc0 : zcls a0 = 28)      : zw (zu_call (zt_T n) 156 [(40, a0)] m0) (fun v m => zi_I m ∧ zfr [(28, 65), (28, 66), (28, 67), (28, 68), (28, 69), (28, 70), (132, 0)] m0 m ∧ True) := by
  have hFm0 : zfr [(28, 65), (28, 66), (28, 67), (28, 68), (28, 69), (28, 70), (132, 0)] m0 m0 := zfr_rf _ _
  refine zw_eq (zr_156_0 n a0 m0) ?_
  refine zw_bd (zw_mono (zk_35 n hIm0 hc0) (fun v8 m7 hqm7 => ?_))
  obtain ⟨hIm7, hfm7, hvm7⟩ := hqm7
  have hFm7 := zfr_tr hFm0 hfm7 rfl
  have hM : (48 - 0) * 1 + 0 < ((49 : Nat) : Int) := by omega
  exact (zl_156 n (m0 := m0) hc0 49) 0 m7 hIm7 hFm7 ⟨by omega, by omega⟩ hM
set_option maxHeartbeats 4000000 in
theorem zk_166 (n : Nat) {a0 : Int} {m0 : zu_m} (hIm0 : zi_I m0) (hc0 : zcls a0 = 28)      : zw (zu_call (zt_T n) 166 [(40, a0)] m0) (fun v m => zi_I m ∧ zfr [(28, 76), (133, 0)] m0 m ∧ True ∧ (1 ≤ m a0 75 ∧ m a0 75 ≤ 4)) := by
  sorry
set_option maxHeartbeats 4000000 in
theorem zl_168 (n : Nat) {a0 a1 a2 : Int} {m0 : zu_m} (hc0 : zcls a0 = 28)   : ∀ k : Nat, (∀ (x3 : Int) (mh : zu_m), zi_I mh → zfr [] m0 mh → (0 ≤ a1 ∧ a1 ≤ 3) → (0 ≤ a2 ∧ a2 ≤ 3) → (0 ≤ x3 ∧ x3 ≤ 4) → (1 ≤ mh a0 75 ∧ mh a0 75 ≤ 4) → (4 - x3) * 1 + 0 < (k : Int) → zw (zu_ex (zt_T n) 168 2 [(40, a0), (0, a1), (0, a2), (0, x3)] [] mh) (fun v m => zi_I m ∧ zfr [] m0 m ∧ (0 ≤ v ∧ v ≤ 1))) := by
  intro k
  induction k with
  | zero => exact fun x3 mh hImh hFmh hba1 hba2 hbx3 hg3 hM => by exfalso; omega
  | succ k ih =>
    intro x3 mh hImh hFmh hba1 hba2 hbx3 hg3 hM
    refine zw_eq (zr_168_2 n a0 a1 a2 x3 mh) ?_
    refine zw_ite (fun h1 => ?_) (fun h1 => ?_)
    · refine zw_b (by omega) ?_
      exact zw_some ⟨hImh, hFmh, ⟨by omega, by omega⟩⟩
    · refine zw_bd (zw_mono (zk_167 n hImh hc0 ⟨by omega, by omega⟩ ⟨by omega, by omega⟩) (fun v3 m2 hqm2 => ?_))
      obtain ⟨hIm2, hfm2, hvm2⟩ := hqm2
      have hFm2 := zfr_tr hFmh hfm2 rfl
      refine zw_bd (zw_mono (zk_167 n hIm2 hc0 ⟨by omega, by omega⟩ ⟨by omega, by omega⟩) (fun v5 m4 hqm4 => ?_))
      obtain ⟨hIm4, hfm4, hvm4⟩ := hqm4
      have hFm4 := zfr_tr hFm2 hfm4 rfl
      refine zw_ite (fun h6 => ?_) (fun h6 => ?_)
      · refine zw_b (by omega) ?_
        exact zw_some ⟨hIm4, hFm4, ⟨by omega, by omega⟩⟩
      · refine zw_bd (zw_mono (zk_167 n hIm4 hc0 ⟨by omega, by omega⟩ ⟨by omega, by omega⟩) (fun v8 m7 hqm7 => ?_))
        obtain ⟨hIm7, hfm7, hvm7⟩ := hqm7
        have hFm7 := zfr_tr hFm4 hfm7 rfl
        refine zw_bd (zw_mono (zk_167 n hIm7 hc0 ⟨by omega, by omega⟩ ⟨by omega, by omega⟩) (fun v10 m9 hqm9 => ?_))
        obtain ⟨hIm9, hfm9, hvm9⟩ := hqm9
        have hFm9 := zfr_tr hFm7 hfm9 rfl
        refine zw_ite (fun h11 => ?_) (fun h11 => ?_)
        · have w12 := zu_w32_id (z := x3 + 1) (by omega) (by omega)
          have r13 : 0 ≤ (m9 a0 75) ∧ (m9 a0 75) ≤ 4 := zi_rd hIm9 hc0 zb_28_75
          have e14 : (m9 a0 75) = (mh a0 75) := (Eq.trans (zfr_ap hfm9 hc0 rfl) (Eq.trans (zfr_ap hfm7 hc0 rfl) (Eq.trans (zfr_ap hfm4 hc0 rfl) (zfr_ap hfm2 hc0 rfl))))
          have hM : (4 - (zu_w32 (x3 + 1))) * 1 + 0 < (k : Int) := by omega
          exact ih (zu_w32 (x3 + 1)) m9 hIm9 hFm9 ⟨by omega, by omega⟩ ⟨by omega, by omega⟩ ⟨by omega, by omega⟩ ⟨by omega, by omega⟩ hM
        · refine zw_b (by omega) ?_
          exact zw_some ⟨hIm9, hFm9, ⟨by omega, by omega⟩⟩
set_option maxHeartbeats 4000000 in
theorem zk_168 (n : Nat) {a0 a1 a2 : Int} {m0 : zu_m} (hIm0 : zi_I m0) (hc0 : zcls a0 = 28) (ha1 : 0 ≤ a1 ∧ a1 ≤ 3) (ha2 : 0 ≤ a2 ∧ a2 ≤ 3)  (he0 : 1 ≤ m0 a0 75 ∧ m0 a0 75 ≤ 4)   : zw (zu_call (zt_T n) 168 [(40, a0), (0, a1), (0, a2)] m0) (fun v m => zi_I m ∧ zfr [] m0 m ∧ (0 ≤ v ∧ v ≤ 1)) := by
  have hFm0 : zfr [] m0 m0 := zfr_rf _ _
  refine zw_eq (zr_168_0 n a0 a1 a2 m0) ?_
  have hM : (4 - 0) * 1 + 0 < ((5 : Nat) : Int) := by omega
  exact (zl_168 n (m0 := m0) hc0 5) 0 m0 hIm0 hFm0 ⟨by omega, by omega⟩ ⟨by omega, by omega⟩ ⟨by omega, by omega⟩ ⟨by omega, by omega⟩ hM
set_option maxHeartbeats 4000000 in
theorem zk_179 (n : Nat) {a0 a1 a2 a3 a4 : Int} {m0 : zu_m} (hIm0 : zi_I m0) (hc0 : zcls a0 = 28) (ha1 : (-2147483648) ≤ a1 ∧ a1 ≤ 2147483647) (ha2 : (-2147483648) ≤ a2 ∧ a2 ≤ 2147483647) (ha3 : (-2147483648) ≤ a3 ∧ a3 ≤ 2147483647) (ha4 : 0 ≤ a4 ∧ a4 ≤ 1)     : zw (zu_call (zt_T n) 179 [(40, a0), (0, a1), (0, a2), (0, a3), (0, a4)] m0) (fun v m => zi_I m ∧ zfr [(28, 3), (28, 78), (135, 0)] m0 m ∧ ((-1) ≤ v ∧ v ≤ 23) ∧ (0 ≤ m a0 2 ∧ m a0 2 ≤ 0)) := by
  have hFm0 : zfr [(28, 3), (28, 78), (135, 0)] m0 m0 := zfr_rf _ _
  refine zw_eq (zr_179_0 n a0 a1 a2 a3 a4 m0) ?_
  generalize hmm1 : zu_up m0 a0 2 0 = m1
  have hIm1 := zi_up hmm1 hIm0 hc0 zb_28_2 (by omega) (by omega)
  have hFm1 := zfr_up hmm1 hFm0 hc0 rfl
  have r2 : 0 ≤ (m1 a0 77) ∧ (m1 a0 77) ≤ 24 := zi_rd hIm1 hc0 zb_28_77
  refine zw_ite (fun h3 => ?_) (fun h3 => ?_)
  · have r4 : (-2147483648) ≤ (m1 a0 2) ∧ (m1 a0 2) ≤ 2147483647 := zi_rd hIm1 hc0 zb_28_2
    have e5 : (m1 a0 2) = 0 := (zs_eq hmm1)
    exact zw_some ⟨hIm1, hFm1, ⟨by omega, by omega⟩, ⟨by omega, by omega⟩⟩
  · refine zw_bd (zw_eq (zr_83_0 n a1 1 200 m1) ?_)
    refine zw_ite (fun h6 => ?_) (fun h6 => ?_)
    · refine zw_b (by omega) ?_
      refine zw_some ?_
      refine zw_ite (fun h7 => ?_) (fun h7 => ?_)
      · have r8 : (-2147483648) ≤ (m1 a0 2) ∧ (m1 a0 2) ≤ 2147483647 := zi_rd hIm1 hc0 zb_28_2
        have e9 : (m1 a0 2) = 0 := (zs_eq hmm1)
        exact zw_some ⟨hIm1, hFm1, ⟨by omega, by omega⟩, ⟨by omega, by omega⟩⟩
      · exfalso; omega
    · refine zw_ite (fun h10 => ?_) (fun h10 => ?_)
      · refine zw_b (by omega) ?_
        refine zw_some ?_
        refine zw_ite (fun h11 => ?_) (fun h11 => ?_)
        · have r12 : (-2147483648) ≤ (m1 a0 2) ∧ (m1 a0 2) ≤ 2147483647 := zi_rd hIm1 hc0 zb_28_2
          have e13 : (m1 a0 2) = 0 := (zs_eq hmm1)
          exact zw_some ⟨hIm1, hFm1, ⟨by omega, by omega⟩, ⟨by omega, by omega⟩⟩
        · exfalso; omega
      · refine zw_b (by omega) ?_
        refine zw_some ?_
        refine zw_ite (fun h14 => ?_) (fun h14 => ?_)
        · exfalso; omega
        · refine zw_bd (zw_eq (zr_125_0 n a0 a2 m1) ?_)
          refine zw_ite (fun h15 => ?_) (fun h15 => ?_)
          · refine zw_b (by omega) ?_
            refine zw_some ?_
            refine zw_ite (fun h16 => ?_) (fun h16 => ?_)
            · have r17 : (-2147483648) ≤ (m1 a0 2) ∧ (m1 a0 2) ≤ 2147483647 := zi_rd hIm1 hc0 zb_28_2
              have e18 : (m1 a0 2) = 0 := (zs_eq hmm1)
              exact zw_some ⟨hIm1, hFm1, ⟨by omega, by omega⟩, ⟨by omega, by omega⟩⟩
            · exfalso; omega
          · have r19 : 0 ≤ (m1 a0 15) ∧ (m1 a0 15) ≤ 4 := zi_rd hIm1 hc0 zb_28_15
            refine zw_ite (fun h20 => ?_) (fun h20 => ?_)
            · refine zw_b (by omega) ?_
              refine zw_some ?_
              refine zw_ite (fun h21 => ?_) (fun h21 => ?_)
              · have r22 : (-2147483648) ≤ (m1 a0 2) ∧ (m1 a0 2) ≤ 2147483647 := zi_rd hIm1 hc0 zb_28_2
                have e23 : (m1 a0 2) = 0 := (zs_eq hmm1)
                exact zw_some ⟨hIm1, hFm1, ⟨by omega, by omega⟩, ⟨by omega, by omega⟩⟩
              · exfalso; omega
            · refine zw_b (by omega) ?_
              refine zw_some ?_
              refine zw_ite (fun h24 => ?_) (fun h24 => ?_)
              · exfalso; omega
              · refine zw_bd (zw_eq (zr_83_0 n a3 0 16 m1) ?_)
                refine zw_ite (fun h25 => ?_) (fun h25 => ?_)
                · refine zw_b (by omega) ?_
                  refine zw_some ?_
                  refine zw_ite (fun h26 => ?_) (fun h26 => ?_)
                  · exfalso; omega
                  · have r27 : (-2147483648) ≤ (m1 a0 2) ∧ (m1 a0 2) ≤ 2147483647 := zi_rd hIm1 hc0 zb_28_2
                    have e28 : (m1 a0 2) = 0 := (zs_eq hmm1)
                    exact zw_some ⟨hIm1, hFm1, ⟨by omega, by omega⟩, ⟨by omega, by omega⟩⟩
                · refine zw_ite (fun h29 => ?_) (fun h29 => ?_)
                  · refine zw_b (by omega) ?_
                    refine zw_some ?_
                    refine zw_ite (fun h30 => ?_) (fun h30 => ?_)
                    · exfalso; omega
                    · have r31 : (-2147483648) ≤ (m1 a0 2) ∧ (m1 a0 2) ≤ 2147483647 := zi_rd hIm1 hc0 zb_28_2
                      have e32 : (m1 a0 2) = 0 := (zs_eq hmm1)
                      exact zw_some ⟨hIm1, hFm1, ⟨by omega, by omega⟩, ⟨by omega, by omega⟩⟩
                  · refine zw_b (by omega) ?_
                    refine zw_some ?_
                    refine zw_ite (fun h33 => ?_) (fun h33 => ?_)
                    · refine zw_ite (fun h34 => ?_) (fun h34 => ?_)
                      · refine zw_bd (zw_eq (zr_178_0 n a0 a1 a2 a3 0 m1) ?_)
                        have w35 := zu_w32_id (z := 4 * (m1 a0 77)) (by omega) (by omega)
                        have b36 : 0 ≤ (zu_w32 (4 * (m1 a0 77))) ∧ (zu_w32 (4 * (m1 a0 77))) < 96 := by omega
                        refine zw_if b36 ?_
                        generalize hmm37 : zu_up m1 226 (zu_w32 (4 * (m1 a0 77))) a1 = m37
                        have hIm37 := zi_upr (m := 4) (r0 := 0) (r1 := 0) (lo := (-1)) (hi := 200) hmm37 hIm1 zq_226 (by omega) (by decide +kernel) (by omega) (by omega)
                        have hFm37 := zfr_up hmm37 hFm1 zq_226 rfl
                        have r38 : 0 ≤ (m37 a0 77) ∧ (m37 a0 77) ≤ 24 := zi_rd hIm37 hc0 zb_28_77
                        have e39 : (m37 a0 77) = (m1 a0 77) := (zs_ne hmm37 (Or.inl (zc_ne hc0 zq_226 (by decide))))
                        have w40 := zu_w32_id (z := 4 * (m37 a0 77)) (by omega) (by omega)
                        have w41 := zu_w32_id (z := (zu_w32 (4 * (m37 a0 77))) + 1) (by omega) (by omega)
                        have b42 : 0 ≤ (zu_w32 ((zu_w32 (4 * (m37 a0 77))) + 1)) ∧ (zu_w32 ((zu_w32 (4 * (m37 a0 77))) + 1)) < 96 := by omega
                        refine zw_if b42 ?_
                        generalize hmm43 : zu_up m37 226 (zu_w32 ((zu_w32 (4 * (m37 a0 77))) + 1)) a2 = m43
                        have hIm43 := zi_upr (m := 4) (r0 := 1) (r1 := 1) (lo := 0) (hi := 23) hmm43 hIm37 zq_226 (by omega) (by decide +kernel) (by omega) (by omega)
                        have hFm43 := zfr_up hmm43 hFm37 zq_226 rfl
                        have r44 : 0 ≤ (m43 a0 77) ∧ (m43 a0 77) ≤ 24 := zi_rd hIm43 hc0 zb_28_77
                        have e45 : (m43 a0 77) = (m37 a0 77) := (zs_ne hmm43 (Or.inl (zc_ne hc0 zq_226 (by decide))))
                        have w46 := zu_w32_id (z := 4 * (m43 a0 77)) (by omega) (by omega)
                        have w47 := zu_w32_id (z := (zu_w32 (4 * (m43 a0 77))) + 2) (by omega) (by omega)
                        have b48 : 0 ≤ (zu_w32 ((zu_w32 (4 * (m43 a0 77))) + 2)) ∧ (zu_w32 ((zu_w32 (4 * (m43 a0 77))) + 2)) < 96 := by omega
                        refine zw_if b48 ?_
                        generalize hmm49 : zu_up m43 226 (zu_w32 ((zu_w32 (4 * (m43 a0 77))) + 2)) a3 = m49
                        have hIm49 := zi_upr (m := 4) (r0 := 2) (r1 := 2) (lo := 0) (hi := 16) hmm49 hIm43 zq_226 (by omega) (by decide +kernel) (by omega) (by omega)
                        have hFm49 := zfr_up hmm49 hFm43 zq_226 rfl
                        have r50 : 0 ≤ (m49 a0 77) ∧ (m49 a0 77) ≤ 24 := zi_rd hIm49 hc0 zb_28_77
                        have e51 : (m49 a0 77) = (m43 a0 77) := (zs_ne hmm49 (Or.inl (zc_ne hc0 zq_226 (by decide))))
                        have w52 := zu_w32_id (z := 4 * (m49 a0 77)) (by omega) (by omega)
                        have w53 := zu_w32_id (z := (zu_w32 (4 * (m49 a0 77))) + 3) (by omega) (by omega)
                        have b54 : 0 ≤ (zu_w32 ((zu_w32 (4 * (m49 a0 77))) + 3)) ∧ (zu_w32 ((zu_w32 (4 * (m49 a0 77))) + 3)) < 96 := by omega
                        refine zw_if b54 ?_
                        generalize hmm55 : zu_up m49 226 (zu_w32 ((zu_w32 (4 * (m49 a0 77))) + 3)) 0 = m55
                        have hIm55 := zi_upr (m := 4) (r0 := 3) (r1 := 3) (lo := 0) (hi := 1) hmm55 hIm49 zq_226 (by omega) (by decide +kernel) (by omega) (by omega)
                        have hFm55 := zfr_up hmm55 hFm49 zq_226 rfl
                        have r56 : 0 ≤ (m55 a0 77) ∧ (m55 a0 77) ≤ 24 := zi_rd hIm55 hc0 zb_28_77
                        have e57 : (m55 a0 77) = (m49 a0 77) := (zs_ne hmm55 (Or.inl (zc_ne hc0 zq_226 (by decide))))
                        have w58 := zu_w32_id (z := (m55 a0 77) + 1) (by omega) (by omega)
                        generalize hmm59 : zu_up m55 a0 77 (zu_w32 ((m55 a0 77) + 1)) = m59
                        have hIm59 := zi_up hmm59 hIm55 hc0 zb_28_77 (by omega) (by omega)
                        have hFm59 := zfr_up hmm59 hFm55 hc0 rfl
                        have r60 : 0 ≤ (m59 a0 77) ∧ (m59 a0 77) ≤ 24 := zi_rd hIm59 hc0 zb_28_77
                        have e61 : (m59 a0 77) = (zu_w32 ((m55 a0 77) + 1)) := (zs_eq hmm59)
                        have w62 := zu_w32_id (z := (m59 a0 77) - 1) (by omega) (by omega)
                        refine zw_some ?_
                        have r63 : (-2147483648) ≤ (m59 a0 2) ∧ (m59 a0 2) ≤ 2147483647 := zi_rd hIm59 hc0 zb_28_2
                        have e64 : (m59 a0 2) = 0 := (Eq.trans (zs_ne hmm59 (Or.inr (by decide))) (Eq.trans (zs_ne hmm55 (Or.inl (zc_ne hc0 zq_226 (by decide)))) (Eq.trans (zs_ne hmm49 (Or.inl (zc_ne hc0 zq_226 (by decide)))) (Eq.trans (zs_ne hmm43 (Or.inl (zc_ne hc0 zq_226 (by decide)))) (Eq.trans (zs_ne hmm37 (Or.inl (zc_ne hc0 zq_226 (by decide)))) (zs_eq hmm1))))))
                        exact zw_some ⟨hIm59, hFm59, ⟨by omega, by omega⟩, ⟨by omega, by omega⟩⟩
                      · refine zw_bd (zw_eq (zr_178_0 n a0 a1 a2 a3 1 m1) ?_)
                        have w65 := zu_w32_id (z := 4 * (m1 a0 77)) (by omega) (by omega)
                        have b66 : 0 ≤ (zu_w32 (4 * (m1 a0 77))) ∧ (zu_w32 (4 * (m1 a0 77))) < 96 := by omega
                        refine zw_if b66 ?_
                        generalize hmm67 : zu_up m1 226 (zu_w32 (4 * (m1 a0 77))) a1 = m67
                        have hIm67 := zi_upr (m := 4) (r0 := 0) (r1 := 0) (lo := (-1)) (hi := 200) hmm67 hIm1 zq_226 (by omega) (by decide +kernel) (by omega) (by omega)
                        have hFm67 := zfr_up hmm67 hFm1 zq_226 rfl
                        have r68 : 0 ≤ (m67 a0 77) ∧ (m67 a0 77) ≤ 24 := zi_rd hIm67 hc0 zb_28_77
                        have e69 : (m67 a0 77) = (m1 a0 77) := (zs_ne hmm67 (Or.inl (zc_ne hc0 zq_226 (by decide))))
                        have w70 := zu_w32_id (z := 4 * (m67 a0 77)) (by omega) (by omega)
                        have w71 := zu_w32_id (z := (zu_w32 (4 * (m67 a0 77))) + 1) (by omega) (by omega)
                        have b72 : 0 ≤ (zu_w32 ((zu_w32 (4 * (m67 a0 77))) + 1)) ∧ (zu_w32 ((zu_w32 (4 * (m67 a0 77))) + 1)) < 96 := by omega
                        refine zw_if b72 ?_
                        generalize hmm73 : zu_up m67 226 (zu_w32 ((zu_w32 (4 * (m67 a0 77))) + 1)) a2 = m73
                        have hIm73 := zi_upr (m := 4) (r0 := 1) (r1 := 1) (lo := 0) (hi := 23) hmm73 hIm67 zq_226 (by omega) (by decide +kernel) (by omega) (by omega)
                        have hFm73 := zfr_up hmm73 hFm67 zq_226 rfl
                        have r74 : 0 ≤ (m73 a0 77) ∧ (m73 a0 77) ≤ 24 := zi_rd hIm73 hc0 zb_28_77
                        have e75 : (m73 a0 77) = (m67 a0 77) := (zs_ne hmm73 (Or.inl (zc_ne hc0 zq_226 (by decide))))
                        have w76 := zu_w32_id (z := 4 * (m73 a0 77)) (by omega) (by omega)
                        have w77 := zu_w32_id (z := (zu_w32 (4 * (m73 a0 77))) + 2) (by omega) (by omega)
                        have b78 : 0 ≤ (zu_w32 ((zu_w32 (4 * (m73 a0 77))) + 2)) ∧ (zu_w32 ((zu_w32 (4 * (m73 a0 77))) + 2)) < 96 := by omega
                        refine zw_if b78 ?_
                        generalize hmm79 : zu_up m73 226 (zu_w32 ((zu_w32 (4 * (m73 a0 77))) + 2)) a3 = m79
                        have hIm79 := zi_upr (m := 4) (r0 := 2) (r1 := 2) (lo := 0) (hi := 16) hmm79 hIm73 zq_226 (by omega) (by decide +kernel) (by omega) (by omega)
                        have hFm79 := zfr_up hmm79 hFm73 zq_226 rfl
                        have r80 : 0 ≤ (m79 a0 77) ∧ (m79 a0 77) ≤ 24 := zi_rd hIm79 hc0 zb_28_77
                        have e81 : (m79 a0 77) = (m73 a0 77) := (zs_ne hmm79 (Or.inl (zc_ne hc0 zq_226 (by decide))))
                        have w82 := zu_w32_id (z := 4 * (m79 a0 77)) (by omega) (by omega)
                        have w83 := zu_w32_id (z := (zu_w32 (4 * (m79 a0 77))) + 3) (by omega) (by omega)
                        have b84 : 0 ≤ (zu_w32 ((zu_w32 (4 * (m79 a0 77))) + 3)) ∧ (zu_w32 ((zu_w32 (4 * (m79 a0 77))) + 3)) < 96 := by omega
                        refine zw_if b84 ?_
                        generalize hmm85 : zu_up m79 226 (zu_w32 ((zu_w32 (4 * (m79 a0 77))) + 3)) 1 = m85
                        have hIm85 := zi_upr (m := 4) (r0 := 3) (r1 := 3) (lo := 0) (hi := 1) hmm85 hIm79 zq_226 (by omega) (by decide +kernel) (by omega) (by omega)
                        have hFm85 := zfr_up hmm85 hFm79 zq_226 rfl
                        have r86 : 0 ≤ (m85 a0 77) ∧ (m85 a0 77) ≤ 24 := zi_rd hIm85 hc0 zb_28_77
                        have e87 : (m85 a0 77) = (m79 a0 77) := (zs_ne hmm85 (Or.inl (zc_ne hc0 zq_226 (by decide))))
                        have w88 := zu_w32_id (z := (m85 a0 77) + 1) (by omega) (by omega)
                        generalize hmm89 : zu_up m85 a0 77 (zu_w32 ((m85 a0 77) + 1)) = m89
                        have hIm89 := zi_up hmm89 hIm85 hc0 zb_28_77 (by omega) (by omega)
                        have hFm89 := zfr_up hmm89 hFm85 hc0 rfl
                        have r90 : 0 ≤ (m89 a0 77) ∧ (m89 a0 77) ≤ 24 := zi_rd hIm89 hc0 zb_28_77
                        have e91 : (m89 a0 77) = (zu_w32 ((m85 a0 77) + 1)) := (zs_eq hmm89)
                        have w92 := zu_w32_id (z := (m89 a0 77) - 1) (by omega) (by omega)
                        refine zw_some ?_
                        have r93 : (-2147483648) ≤ (m89 a0 2) ∧ (m89 a0 2) ≤ 2147483647 := zi_rd hIm89 hc0 zb_28_2
                        have e94 : (m89 a0 2) = 0 := (Eq.trans (zs_ne hmm89 (Or.inr (by decide))) (Eq.trans (zs_ne hmm85 (Or.inl (zc_ne hc0 zq_226 (by decide)))) (Eq.trans (zs_ne hmm79 (Or.inl (zc_ne hc0 zq_226 (by decide)))) (Eq.trans (zs_ne hmm73 (Or.inl (zc_ne hc0 zq_226 (by decide)))) (Eq.trans (zs_ne hmm67 (Or.inl (zc_ne hc0 zq_226 (by decide)))) (zs_eq hmm1))))))
                        exact zw_some ⟨hIm89, hFm89, ⟨by omega, by omega⟩, ⟨by omega, by omega⟩⟩
                    · exfalso; omega
set_option maxHeartbeats 4000000 in
theorem zk_180 (n : Nat) {a0 a1 : Int} {m0 : zu_m} (hIm0 : zi_I m0) (hc0 : zcls a0 = 28) (ha1 : (-2147483648) ≤ a1 ∧ a1 ≤ 2147483647)     : zw (zu_call (zt_T n) 180 [(40, a0), (0, a1)] m0) (fun v m => zi_I m ∧ zfr [(28, 3), (28, 78), (135, 0)] m0 m ∧ ((-1) ≤ v ∧ v ≤ 23) ∧ (0 ≤ m a0 2 ∧ m a0 2 ≤ 0)) := by
  have hFm0 : zfr [(28, 3), (28, 78), (135, 0)] m0 m0 := zfr_rf _ _
  refine zw_eq (zr_180_0 n a0 a1 m0) ?_
  generalize hmm1 : zu_up m0 a0 2 0 = m1
  have hIm1 := zi_up hmm1 hIm0 hc0 zb_28_2 (by omega) (by omega)
  have hFm1 := zfr_up hmm1 hFm0 hc0 rfl
  have r2 : 0 ≤ (m1 a0 77) ∧ (m1 a0 77) ≤ 24 := zi_rd hIm1 hc0 zb_28_77
  refine zw_ite (fun h3 => ?_) (fun h3 => ?_)
  · have r4 : (-2147483648) ≤ (m1 a0 2) ∧ (m1 a0 2) ≤ 2147483647 := zi_rd hIm1 hc0 zb_28_2
    have e5 : (m1 a0 2) = 0 := (zs_eq hmm1)
    exact zw_some ⟨hIm1, hFm1, ⟨by omega, by omega⟩, ⟨by omega, by omega⟩⟩
  · refine zw_ite (fun h6 => ?_) (fun h6 => ?_)
    · have r7 : (-2147483648) ≤ (m1 a0 2) ∧ (m1 a0 2) ≤ 2147483647 := zi_rd hIm1 hc0 zb_28_2
      have e8 : (m1 a0 2) = 0 := (zs_eq hmm1)
      exact zw_some ⟨hIm1, hFm1, ⟨by omega, by omega⟩, ⟨by omega, by omega⟩⟩
    · refine zw_ite (fun h9 => ?_) (fun h9 => ?_)
      · refine zw_bd (zw_eq (zr_178_0 n a0 (-1) a1 0 0 m1) ?_)
        have w10 := zu_w32_id (z := 4 * (m1 a0 77)) (by omega) (by omega)
        have b11 : 0 ≤ (zu_w32 (4 * (m1 a0 77))) ∧ (zu_w32 (4 * (m1 a0 77))) < 96 := by omega
        refine zw_if b11 ?_
        generalize hmm12 : zu_up m1 226 (zu_w32 (4 * (m1 a0 77))) (-1) = m12
        have hIm12 := zi_upr (m := 4) (r0 := 0) (r1 := 0) (lo := (-1)) (hi := 200) hmm12 hIm1 zq_226 (by omega) (by decide +kernel) (by omega) (by omega)
        have hFm12 := zfr_up hmm12 hFm1 zq_226 rfl
        have r13 : 0 ≤ (m12 a0 77) ∧ (m12 a0 77) ≤ 24 := zi_rd hIm12 hc0 zb_28_77
        have e14 : (m12 a0 77) = (m1 a0 77) := (zs_ne hmm12 (Or.inl (zc_ne hc0 zq_226 (by decide))))
        have w15 := zu_w32_id (z := 4 * (m12 a0 77)) (by omega) (by omega)
        have w16 := zu_w32_id (z := (zu_w32 (4 * (m12 a0 77))) + 1) (by omega) (by omega)
        have b17 : 0 ≤ (zu_w32 ((zu_w32 (4 * (m12 a0 77))) + 1)) ∧ (zu_w32 ((zu_w32 (4 * (m12 a0 77))) + 1)) < 96 := by omega
        refine zw_if b17 ?_
        generalize hmm18 : zu_up m12 226 (zu_w32 ((zu_w32 (4 * (m12 a0 77))) + 1)) a1 = m18
        have hIm18 := zi_upr (m := 4) (r0 := 1) (r1 := 1) (lo := 0) (hi := 23) hmm18 hIm12 zq_226 (by omega) (by decide +kernel) (by omega) (by omega)
        have hFm18 := zfr_up hmm18 hFm12 zq_226 rfl
        have r19 : 0 ≤ (m18 a0 77) ∧ (m18 a0 77) ≤ 24 := zi_rd hIm18 hc0 zb_28_77
        have e20 : (m18 a0 77) = (m12 a0 77) := (zs_ne hmm18 (Or.inl (zc_ne hc0 zq_226 (by decide))))
        have w21 := zu_w32_id (z := 4 * (m18 a0 77)) (by omega) (by omega)
        have w22 := zu_w32_id (z := (zu_w32 (4 * (m18 a0 77))) + 2) (by omega) (by omega)
        have b23 : 0 ≤ (zu_w32 ((zu_w32 (4 * (m18 a0 77))) + 2)) ∧ (zu_w32 ((zu_w32 (4 * (m18 a0 77))) + 2)) < 96 := by omega
        refine zw_if b23 ?_
        generalize hmm24 : zu_up m18 226 (zu_w32 ((zu_w32 (4 * (m18 a0 77))) + 2)) 0 = m24
        have hIm24 := zi_upr (m := 4) (r0 := 2) (r1 := 2) (lo := 0) (hi := 16) hmm24 hIm18 zq_226 (by omega) (by decide +kernel) (by omega) (by omega)
        have hFm24 := zfr_up hmm24 hFm18 zq_226 rfl
        have r25 : 0 ≤ (m24 a0 77) ∧ (m24 a0 77) ≤ 24 := zi_rd hIm24 hc0 zb_28_77
        have e26 : (m24 a0 77) = (m18 a0 77) := (zs_ne hmm24 (Or.inl (zc_ne hc0 zq_226 (by decide))))
        have w27 := zu_w32_id (z := 4 * (m24 a0 77)) (by omega) (by omega)
        have w28 := zu_w32_id (z := (zu_w32 (4 * (m24 a0 77))) + 3) (by omega) (by omega)
        have b29 : 0 ≤ (zu_w32 ((zu_w32 (4 * (m24 a0 77))) + 3)) ∧ (zu_w32 ((zu_w32 (4 * (m24 a0 77))) + 3)) < 96 := by omega
        refine zw_if b29 ?_
        generalize hmm30 : zu_up m24 226 (zu_w32 ((zu_w32 (4 * (m24 a0 77))) + 3)) 0 = m30
        have hIm30 := zi_upr (m := 4) (r0 := 3) (r1 := 3) (lo := 0) (hi := 1) hmm30 hIm24 zq_226 (by omega) (by decide +kernel) (by omega) (by omega)
        have hFm30 := zfr_up hmm30 hFm24 zq_226 rfl
        have r31 : 0 ≤ (m30 a0 77) ∧ (m30 a0 77) ≤ 24 := zi_rd hIm30 hc0 zb_28_77
        have e32 : (m30 a0 77) = (m24 a0 77) := (zs_ne hmm30 (Or.inl (zc_ne hc0 zq_226 (by decide))))
        have w33 := zu_w32_id (z := (m30 a0 77) + 1) (by omega) (by omega)
        generalize hmm34 : zu_up m30 a0 77 (zu_w32 ((m30 a0 77) + 1)) = m34
        have hIm34 := zi_up hmm34 hIm30 hc0 zb_28_77 (by omega) (by omega)
        have hFm34 := zfr_up hmm34 hFm30 hc0 rfl
        have r35 : 0 ≤ (m34 a0 77) ∧ (m34 a0 77) ≤ 24 := zi_rd hIm34 hc0 zb_28_77
        have e36 : (m34 a0 77) = (zu_w32 ((m30 a0 77) + 1)) := (zs_eq hmm34)
        have w37 := zu_w32_id (z := (m34 a0 77) - 1) (by omega) (by omega)
        refine zw_some ?_
        have r38 : (-2147483648) ≤ (m34 a0 2) ∧ (m34 a0 2) ≤ 2147483647 := zi_rd hIm34 hc0 zb_28_2
        have e39 : (m34 a0 2) = 0 := (Eq.trans (zs_ne hmm34 (Or.inr (by decide))) (Eq.trans (zs_ne hmm30 (Or.inl (zc_ne hc0 zq_226 (by decide)))) (Eq.trans (zs_ne hmm24 (Or.inl (zc_ne hc0 zq_226 (by decide)))) (Eq.trans (zs_ne hmm18 (Or.inl (zc_ne hc0 zq_226 (by decide)))) (Eq.trans (zs_ne hmm12 (Or.inl (zc_ne hc0 zq_226 (by decide)))) (zs_eq hmm1))))))
        exact zw_some ⟨hIm34, hFm34, ⟨by omega, by omega⟩, ⟨by omega, by omega⟩⟩
      · have r40 : (-2147483648) ≤ (m1 a0 2) ∧ (m1 a0 2) ≤ 2147483647 := zi_rd hIm1 hc0 zb_28_2
        have e41 : (m1 a0 2) = 0 := (zs_eq hmm1)
        exact zw_some ⟨hIm1, hFm1, ⟨by omega, by omega⟩, ⟨by omega, by omega⟩⟩
set_option maxHeartbeats 4000000 in
theorem zk_181 (n : Nat) {a0 a1 : Int} {m0 : zu_m} (hIm0 : zi_I m0) (hc0 : zcls a0 = 28) (ha1 : (-2147483648) ≤ a1 ∧ a1 ≤ 2147483647)     : zw (zu_call (zt_T n) 181 [(40, a0), (0, a1)] m0) (fun v m => zi_I m ∧ zfr [(28, 3), (28, 79)] m0 m ∧ (0 ≤ v ∧ v ≤ 1) ∧ (0 ≤ m a0 2 ∧ m a0 2 ≤ 0)) := by
  have hFm0 : zfr [(28, 3), (28, 79)] m0 m0 := zfr_rf _ _
  refine zw_eq (zr_181_0 n a0 a1 m0) ?_
  generalize hmm1 : zu_up m0 a0 2 0 = m1
  have hIm1 := zi_up hmm1 hIm0 hc0 zb_28_2 (by omega) (by omega)
  have hFm1 := zfr_up hmm1 hFm0 hc0 rfl
  have r2 : 0 ≤ (m1 a0 77) ∧ (m1 a0 77) ≤ 24 := zi_rd hIm1 hc0 zb_28_77
  refine zw_bd (zw_eq (zr_83_0 n a1 (-1) (m1 a0 77) m1) ?_)
  refine zw_ite (fun h3 => ?_) (fun h3 => ?_)
  · refine zw_b (by omega) ?_
    refine zw_some ?_
    refine zw_ite (fun h4 => ?_) (fun h4 => ?_)
    · exfalso; omega
    · refine zw_b (by omega) ?_
      have r5 : (-2147483648) ≤ (m1 a0 2) ∧ (m1 a0 2) ≤ 2147483647 := zi_rd hIm1 hc0 zb_28_2
      have e6 : (m1 a0 2) = 0 := (zs_eq hmm1)
      exact zw_some ⟨hIm1, hFm1, ⟨by omega, by omega⟩, ⟨by omega, by omega⟩⟩
  · refine zw_ite (fun h7 => ?_) (fun h7 => ?_)
    · refine zw_b (by omega) ?_
      refine zw_some ?_
      refine zw_ite (fun h8 => ?_) (fun h8 => ?_)
      · exfalso; omega
      · refine zw_b (by omega) ?_
        have r9 : (-2147483648) ≤ (m1 a0 2) ∧ (m1 a0 2) ≤ 2147483647 := zi_rd hIm1 hc0 zb_28_2
        have e10 : (m1 a0 2) = 0 := (zs_eq hmm1)
        exact zw_some ⟨hIm1, hFm1, ⟨by omega, by omega⟩, ⟨by omega, by omega⟩⟩
    · refine zw_b (by omega) ?_
      refine zw_some ?_
      refine zw_ite (fun h11 => ?_) (fun h11 => ?_)
      · generalize hmm12 : zu_up m1 a0 78 a1 = m12
        have hIm12 := zi_up hmm12 hIm1 hc0 zb_28_78 (by omega) (by omega)
        have hFm12 := zfr_up hmm12 hFm1 hc0 rfl
        refine zw_b (by omega) ?_
        have r13 : (-2147483648) ≤ (m12 a0 2) ∧ (m12 a0 2) ≤ 2147483647 := zi_rd hIm12 hc0 zb_28_2
        have e14 : (m12 a0 2) = 0 := (Eq.trans (zs_ne hmm12 (Or.inr (by decide))) (zs_eq hmm1))
        exact zw_some ⟨hIm12, hFm12, ⟨by omega, by omega⟩, ⟨by omega, by omega⟩⟩
      · exfalso; omega
set_option maxHeartbeats 4000000 in
theorem zl_183 (n : Nat) {a0 a1 : Int} {m0 : zu_m} (hc0 : zcls a0 = 28)   : ∀ k : Nat, (∀ (x2 : Int) (mh : zu_m), zi_I mh → zfr [] m0 mh → (1 ≤ a1 ∧ a1 ≤ 200) → (0 ≤ x2 ∧ x2 ≤ 24) → (24 - x2) * 1 + 0 < (k : Int) → zw (zu_ex (zt_T n) 183 2 [(40, a0), (0, a1), (0, x2), (2, 0)] [] mh) (fun v m => zi_I m ∧ zfr [] m0 m ∧ (0 ≤ v ∧ v ≤ 1))) := by
  intro k
  induction k with
  | zero => exact fun x2 mh hImh hFmh hba1 hbx2 hM => by exfalso; omega
  | succ k ih =>
    intro x2 mh hImh hFmh hba1 hbx2 hM
    refine zw_eq (zr_183_2 n a0 a1 x2 mh) ?_
    refine zw_bd (zw_eq (zr_182_0 n a0 mh) ?_)
    have r1 : (-1) ≤ (mh a0 78) ∧ (mh a0 78) ≤ 24 := zi_rd hImh hc0 zb_28_78
    refine zw_ite (fun h2 => ?_) (fun h2 => ?_)
    · refine zw_some ?_
      refine zw_ite (fun h3 => ?_) (fun h3 => ?_)
      · refine zw_b (by omega) ?_
        exact zw_some ⟨hImh, hFmh, ⟨by omega, by omega⟩⟩
      · have b4 : 0 ≤ x2 ∧ x2 < 24 := by omega
        refine zw_if b4 ?_
        have r5 : 0 ≤ (mh 227 x2) ∧ (mh 227 x2) ≤ 1 := zi_rd hImh zq_227 (zb_136 _)
        refine zw_ite (fun h6 => ?_) (fun h6 => ?_)
        · have w7 := zu_w32_id (z := x2 + 1) (by omega) (by omega)
          have hM : (24 - (zu_w32 (x2 + 1))) * 1 + 0 < (k : Int) := by omega
          exact ih (zu_w32 (x2 + 1)) mh hImh hFmh ⟨by omega, by omega⟩ ⟨by omega, by omega⟩ hM
        · have w8 := zu_w32_id (z := 4 * x2) (by omega) (by omega)
          have b9 : 0 ≤ (zu_w32 (4 * x2)) ∧ (zu_w32 (4 * x2)) < 96 := by omega
          refine zw_if b9 ?_
          have r10 : (-1) ≤ (mh 226 (zu_w32 (4 * x2))) ∧ (mh 226 (zu_w32 (4 * x2))) ≤ 200 := zi_rdr (m := 4) (r0 := 0) (r1 := 0) hImh zq_226 (by omega) (by decide +kernel)
          refine zw_ite (fun h11 => ?_) (fun h11 => ?_)
          · have w12 := zu_w32_id (z := (zu_w32 (4 * x2)) + 1) (by omega) (by omega)
            have b13 : 0 ≤ (zu_w32 ((zu_w32 (4 * x2)) + 1)) ∧ (zu_w32 ((zu_w32 (4 * x2)) + 1)) < 96 := by omega
            refine zw_if b13 ?_
            have r14 : 0 ≤ (mh 226 (zu_w32 ((zu_w32 (4 * x2)) + 1))) ∧ (mh 226 (zu_w32 ((zu_w32 (4 * x2)) + 1))) ≤ 23 := zi_rdr (m := 4) (r0 := 1) (r1 := 1) hImh zq_226 (by omega) (by decide +kernel)
            refine zw_bd (zw_mono (zk_130 n hImh hc0 ⟨by omega, by omega⟩ ⟨by omega, by omega⟩) (fun v16 m15 hqm15 => ?_))
            obtain ⟨hIm15, hfm15, hvm15⟩ := hqm15
            have hFm15 := zfr_tr hFmh hfm15 rfl
            have w17 := zu_w32_id (z := (zu_w32 (4 * x2)) + 2) (by omega) (by omega)
            have b18 : 0 ≤ (zu_w32 ((zu_w32 (4 * x2)) + 2)) ∧ (zu_w32 ((zu_w32 (4 * x2)) + 2)) < 96 := by omega
            refine zw_if b18 ?_
            have r19 : 0 ≤ (m15 226 (zu_w32 ((zu_w32 (4 * x2)) + 2))) ∧ (m15 226 (zu_w32 ((zu_w32 (4 * x2)) + 2))) ≤ 16 := zi_rdr (m := 4) (r0 := 2) (r1 := 2) hIm15 zq_226 (by omega) (by decide +kernel)
            refine zw_ite (fun h20 => ?_) (fun h20 => ?_)
            · have w21 := zu_w32_id (z := (zu_w32 (4 * x2)) + 3) (by omega) (by omega)
              have b22 : 0 ≤ (zu_w32 ((zu_w32 (4 * x2)) + 3)) ∧ (zu_w32 ((zu_w32 (4 * x2)) + 3)) < 96 := by omega
              refine zw_if b22 ?_
              have r23 : 0 ≤ (m15 226 (zu_w32 ((zu_w32 (4 * x2)) + 3))) ∧ (m15 226 (zu_w32 ((zu_w32 (4 * x2)) + 3))) ≤ 1 := zi_rdr (m := 4) (r0 := 3) (r1 := 3) hIm15 zq_226 (by omega) (by decide +kernel)
              refine zw_ite (fun h24 => ?_) (fun h24 => ?_)
              · refine zw_ite (fun h25 => ?_) (fun h25 => ?_)
                · have w26 := zu_w32_id (z := x2 + 1) (by omega) (by omega)
                  have hM : (24 - (zu_w32 (x2 + 1))) * 1 + 0 < (k : Int) := by omega
                  exact zw_le (zu_forget (zu_lr_same (zu_lr_same (zu_lr_same (zu_lr_drop zu_lr_nil))))) (ih (zu_w32 (x2 + 1)) m15 hIm15 hFm15 ⟨by omega, by omega⟩ ⟨by omega, by omega⟩ hM)
                · exfalso; omega
              · refine zw_ite (fun h27 => ?_) (fun h27 => ?_)
                · exfalso; omega
                · refine zw_b (by omega) ?_
                  exact zw_some ⟨hIm15, hFm15, ⟨by omega, by omega⟩⟩
            · have w28 := zu_w32_id (z := (zu_w32 (4 * x2)) + 3) (by omega) (by omega)
              have b29 : 0 ≤ (zu_w32 ((zu_w32 (4 * x2)) + 3)) ∧ (zu_w32 ((zu_w32 (4 * x2)) + 3)) < 96 := by omega
              refine zw_if b29 ?_
              have r30 : 0 ≤ (m15 226 (zu_w32 ((zu_w32 (4 * x2)) + 3))) ∧ (m15 226 (zu_w32 ((zu_w32 (4 * x2)) + 3))) ≤ 1 := zi_rdr (m := 4) (r0 := 3) (r1 := 3) hIm15 zq_226 (by omega) (by decide +kernel)
              refine zw_ite (fun h31 => ?_) (fun h31 => ?_)
              · refine zw_ite (fun h32 => ?_) (fun h32 => ?_)
                · exfalso; omega
                · refine zw_b (by omega) ?_
                  exact zw_some ⟨hIm15, hFm15, ⟨by omega, by omega⟩⟩
              · refine zw_ite (fun h33 => ?_) (fun h33 => ?_)
                · have w34 := zu_w32_id (z := x2 + 1) (by omega) (by omega)
                  have hM : (24 - (zu_w32 (x2 + 1))) * 1 + 0 < (k : Int) := by omega
                  exact zw_le (zu_forget (zu_lr_same (zu_lr_same (zu_lr_same (zu_lr_drop zu_lr_nil))))) (ih (zu_w32 (x2 + 1)) m15 hIm15 hFm15 ⟨by omega, by omega⟩ ⟨by omega, by omega⟩ hM)
                · exfalso; omega
          · have w35 := zu_w32_id (z := x2 + 1) (by omega) (by omega)
            have hM : (24 - (zu_w32 (x2 + 1))) * 1 + 0 < (k : Int) := by omega
            exact ih (zu_w32 (x2 + 1)) mh hImh hFmh ⟨by omega, by omega⟩ ⟨by omega, by omega⟩ hM
    · have r36 : 0 ≤ (mh a0 77) ∧ (mh a0 77) ≤ 24 := zi_rd hImh hc0 zb_28_77
      refine zw_some ?_
      refine zw_ite (fun h37 => ?_) (fun h37 => ?_)
      · refine zw_b (by omega) ?_
        exact zw_some ⟨hImh, hFmh, ⟨by omega, by omega⟩⟩
      · have b38 : 0 ≤ x2 ∧ x2 < 24 := by omega
        refine zw_if b38 ?_
        have r39 : 0 ≤ (mh 227 x2) ∧ (mh 227 x2) ≤ 1 := zi_rd hImh zq_227 (zb_136 _)
        refine zw_ite (fun h40 => ?_) (fun h40 => ?_)
        · have w41 := zu_w32_id (z := x2 + 1) (by omega) (by omega)
          have hM : (24 - (zu_w32 (x2 + 1))) * 1 + 0 < (k : Int) := by omega
          exact ih (zu_w32 (x2 + 1)) mh hImh hFmh ⟨by omega, by omega⟩ ⟨by omega, by omega⟩ hM
        · have w42 := zu_w32_id (z := 4 * x2) (by omega) (by omega)
          have b43 : 0 ≤ (zu_w32 (4 * x2)) ∧ (zu_w32 (4 * x2)) < 96 := by omega
          refine zw_if b43 ?_
          have r44 : (-1) ≤ (mh 226 (zu_w32 (4 * x2))) ∧ (mh 226 (zu_w32 (4 * x2))) ≤ 200 := zi_rdr (m := 4) (r0 := 0) (r1 := 0) hImh zq_226 (by omega) (by decide +kernel)
          refine zw_ite (fun h45 => ?_) (fun h45 => ?_)
          · have w46 := zu_w32_id (z := (zu_w32 (4 * x2)) + 1) (by omega) (by omega)
            have b47 : 0 ≤ (zu_w32 ((zu_w32 (4 * x2)) + 1)) ∧ (zu_w32 ((zu_w32 (4 * x2)) + 1)) < 96 := by omega
            refine zw_if b47 ?_
            have r48 : 0 ≤ (mh 226 (zu_w32 ((zu_w32 (4 * x2)) + 1))) ∧ (mh 226 (zu_w32 ((zu_w32 (4 * x2)) + 1))) ≤ 23 := zi_rdr (m := 4) (r0 := 1) (r1 := 1) hImh zq_226 (by omega) (by decide +kernel)
            refine zw_bd (zw_mono (zk_130 n hImh hc0 ⟨by omega, by omega⟩ ⟨by omega, by omega⟩) (fun v50 m49 hqm49 => ?_))
            obtain ⟨hIm49, hfm49, hvm49⟩ := hqm49
            have hFm49 := zfr_tr hFmh hfm49 rfl
            have w51 := zu_w32_id (z := (zu_w32 (4 * x2)) + 2) (by omega) (by omega)
            have b52 : 0 ≤ (zu_w32 ((zu_w32 (4 * x2)) + 2)) ∧ (zu_w32 ((zu_w32 (4 * x2)) + 2)) < 96 := by omega
            refine zw_if b52 ?_
            have r53 : 0 ≤ (m49 226 (zu_w32 ((zu_w32 (4 * x2)) + 2))) ∧ (m49 226 (zu_w32 ((zu_w32 (4 * x2)) + 2))) ≤ 16 := zi_rdr (m := 4) (r0 := 2) (r1 := 2) hIm49 zq_226 (by omega) (by decide +kernel)
            refine zw_ite (fun h54 => ?_) (fun h54 => ?_)
            · have w55 := zu_w32_id (z := (zu_w32 (4 * x2)) + 3) (by omega) (by omega)
              have b56 : 0 ≤ (zu_w32 ((zu_w32 (4 * x2)) + 3)) ∧ (zu_w32 ((zu_w32 (4 * x2)) + 3)) < 96 := by omega
              refine zw_if b56 ?_
              have r57 : 0 ≤ (m49 226 (zu_w32 ((zu_w32 (4 * x2)) + 3))) ∧ (m49 226 (zu_w32 ((zu_w32 (4 * x2)) + 3))) ≤ 1 := zi_rdr (m := 4) (r0 := 3) (r1 := 3) hIm49 zq_226 (by omega) (by decide +kernel)
              refine zw_ite (fun h58 => ?_) (fun h58 => ?_)
              · refine zw_ite (fun h59 => ?_) (fun h59 => ?_)
                · have w60 := zu_w32_id (z := x2 + 1) (by omega) (by omega)
                  have hM : (24 - (zu_w32 (x2 + 1))) * 1 + 0 < (k : Int) := by omega
                  exact zw_le (zu_forget (zu_lr_same (zu_lr_same (zu_lr_same (zu_lr_drop zu_lr_nil))))) (ih (zu_w32 (x2 + 1)) m49 hIm49 hFm49 ⟨by omega, by omega⟩ ⟨by omega, by omega⟩ hM)
                · exfalso; omega
              · refine zw_ite (fun h61 => ?_) (fun h61 => ?_)
                · exfalso; omega
                · refine zw_b (by omega) ?_
                  exact zw_some ⟨hIm49, hFm49, ⟨by omega, by omega⟩⟩
            · have w62 := zu_w32_id (z := (zu_w32 (4 * x2)) + 3) (by omega) (by omega)
              have b63 : 0 ≤ (zu_w32 ((zu_w32 (4 * x2)) + 3)) ∧ (zu_w32 ((zu_w32 (4 * x2)) + 3)) < 96 := by omega
              refine zw_if b63 ?_
              have r64 : 0 ≤ (m49 226 (zu_w32 ((zu_w32 (4 * x2)) + 3))) ∧ (m49 226 (zu_w32 ((zu_w32 (4 * x2)) + 3))) ≤ 1 := zi_rdr (m := 4) (r0 := 3) (r1 := 3) hIm49 zq_226 (by omega) (by decide +kernel)
              refine zw_ite (fun h65 => ?_) (fun h65 => ?_)
              · refine zw_ite (fun h66 => ?_) (fun h66 => ?_)
                · exfalso; omega
                · refine zw_b (by omega) ?_
                  exact zw_some ⟨hIm49, hFm49, ⟨by omega, by omega⟩⟩
              · refine zw_ite (fun h67 => ?_) (fun h67 => ?_)
                · have w68 := zu_w32_id (z := x2 + 1) (by omega) (by omega)
                  have hM : (24 - (zu_w32 (x2 + 1))) * 1 + 0 < (k : Int) := by omega
                  exact zw_le (zu_forget (zu_lr_same (zu_lr_same (zu_lr_same (zu_lr_drop zu_lr_nil))))) (ih (zu_w32 (x2 + 1)) m49 hIm49 hFm49 ⟨by omega, by omega⟩ ⟨by omega, by omega⟩ hM)
                · exfalso; omega
          · have w69 := zu_w32_id (z := x2 + 1) (by omega) (by omega)
            have hM : (24 - (zu_w32 (x2 + 1))) * 1 + 0 < (k : Int) := by omega
            exact ih (zu_w32 (x2 + 1)) mh hImh hFmh ⟨by omega, by omega⟩ ⟨by omega, by omega⟩ hM
set_option maxHeartbeats 4000000 in
theorem zk_183 (n : Nat) {a0 a1 : Int} {m0 : zu_m} (hIm0 : zi_I m0) (hc0 : zcls a0 = 28) (ha1 : 1 ≤ a1 ∧ a1 ≤ 200)     : zw (zu_call (zt_T n) 183 [(40, a0), (0, a1)] m0) (fun v m => zi_I m ∧ zfr [] m0 m ∧ (0 ≤ v ∧ v ≤ 1)) := by
  have hFm0 : zfr [] m0 m0 := zfr_rf _ _
  refine zw_eq (zr_183_0 n a0 a1 m0) ?_
  have hM : (24 - 0) * 1 + 0 < ((25 : Nat) : Int) := by omega
  exact (zl_183 n (m0 := m0) hc0 25) 0 m0 hIm0 hFm0 ⟨by omega, by omega⟩ ⟨by omega, by omega⟩ hM
set_option maxHeartbeats 4000000 in
theorem zl_190 (n : Nat) {a0 : Int} {m0 : zu_m} (hc0 : zcls a0 = 28)   : ∀ k : Nat, (∀ (x1 : Int) (mh : zu_m), zi_I mh → zfr [(28, 82), (137, 0)] m0 mh → (0 ≤ x1 ∧ x1 ≤ 439) → (20 ≤ mh a0 81 ∧ mh a0 81 ≤ 20) → (439 - x1) * 1 + 0 < (k : Int) → zw (zu_ex (zt_T n) 190 11 [(40, a0), (0, x1)] [] mh) (fun v m => zi_I m ∧ zfr [(28, 82), (137, 0)] m0 m ∧ True ∧ (1 ≤ m a0 81 ∧ m a0 81 ≤ 20))) := by
  intro k
  induction k with
  | zero => exact fun x1 mh hImh hFmh hbx1 hg1 hM => by exfalso; omega
  | succ k ih =>
    intro x1 mh hImh hFmh hbx1 hg1 hM
    refine zw_eq (zr_190_11 n a0 x1 mh) ?_
    refine zw_ite (fun h1 => ?_) (fun h1 => ?_)
    · have w2 := zu_w32_id (z := (mh a0 81) - 1) (by omega) (by omega)
      generalize hmm3 : zu_up mh a0 81 (zu_w32 ((mh a0 81) - 1)) = m3
      have hIm3 := zi_up hmm3 hImh hc0 zb_28_81 (by omega) (by omega)
      have hFm3 := zfr_up hmm3 hFmh hc0 rfl
      have r4 : 0 ≤ (m3 a0 81) ∧ (m3 a0 81) ≤ 20 := zi_rd hIm3 hc0 zb_28_81
      have e5 : (m3 a0 81) = (zu_w32 ((mh a0 81) - 1)) := (zs_eq hmm3)
      have w6 := zu_w32_id (z := 22 * (m3 a0 81)) (by omega) (by omega)
      refine zw_bd (zw_mono (zk_188_28_137 n hIm3 hc0 zq_228 ⟨by omega, by omega⟩ (by omega)) (fun v8 m7 hqm7 => ?_))
      obtain ⟨hIm7, hfm7, hvm7⟩ := hqm7
      have hFm7 := zfr_tr hFm3 hfm7 rfl
      have r9 : 0 ≤ (m7 a0 81) ∧ (m7 a0 81) ≤ 20 := zi_rd hIm7 hc0 zb_28_81
      have e10 : (m7 a0 81) = (m3 a0 81) := (zfr_ap hfm7 hc0 rfl)
      have w11 := zu_w32_id (z := (m7 a0 81) + 1) (by omega) (by omega)
      generalize hmm12 : zu_up m7 a0 81 (zu_w32 ((m7 a0 81) + 1)) = m12
      have hIm12 := zi_up hmm12 hIm7 hc0 zb_28_81 (by omega) (by omega)
      have hFm12 := zfr_up hmm12 hFm7 hc0 rfl
      have r13 : 0 ≤ (m12 a0 81) ∧ (m12 a0 81) ≤ 20 := zi_rd hIm12 hc0 zb_28_81
      have e14 : (m12 a0 81) = (zu_w32 ((m7 a0 81) + 1)) := (zs_eq hmm12)
      exact zw_some ⟨hIm12, hFm12, trivial, ⟨by omega, by omega⟩⟩
    · have w15 := zu_w32_id (z := x1 + 22) (by omega) (by omega)
      have b16 : 0 ≤ (zu_w32 (x1 + 22)) ∧ (zu_w32 (x1 + 22)) < 440 := by omega
      refine zw_if b16 ?_
      have r17 : (-2147483648) ≤ (mh 228 (zu_w32 (x1 + 22))) ∧ (mh 228 (zu_w32 (x1 + 22))) ≤ 2147483647 := zi_rdr (m := 22) (r0 := 0) (r1 := 21) hImh zq_228 (by omega) (by decide +kernel)
      have b18 : 0 ≤ x1 ∧ x1 < 440 := by omega
      refine zw_if b18 ?_
      generalize hmm19 : zu_up mh 228 x1 (mh 228 (zu_w32 (x1 + 22))) = m19
      have hIm19 := zi_upm (m := 22) (q := (zu_w32 (x1 + 22))) hmm19 hImh zq_228 (by decide +kernel) (by omega) rfl
      have hFm19 := zfr_up hmm19 hFmh zq_228 rfl
      have w20 := zu_w32_id (z := x1 + 1) (by omega) (by omega)
      have r21 : 0 ≤ (m19 a0 81) ∧ (m19 a0 81) ≤ 20 := zi_rd hIm19 hc0 zb_28_81
      have e22 : (m19 a0 81) = (mh a0 81) := (zs_ne hmm19 (Or.inl (zc_ne hc0 zq_228 (by decide))))
      have hM : (439 - (zu_w32 (x1 + 1))) * 1 + 0 < (k : Int) := by omega
      exact ih (zu_w32 (x1 + 1)) m19 hIm19 hFm19 ⟨by omega, by omega⟩ ⟨by omega, by omega⟩ hM
set_option maxHeartbeats 4000000 in
theorem zk_190 (n : Nat) {a0 : Int} {m0 : zu_m} (hIm0 : zi_I m0) (hc0 : zcls a0 = 28)      : zw (zu_call (zt_T n) 190 [(40, a0)] m0) (fun v m => zi_I m ∧ zfr [(28, 82), (137, 0)] m0 m ∧ True ∧ (1 ≤ m a0 81 ∧ m a0 81 ≤ 20)) := by
  have hFm0 : zfr [(28, 82), (137, 0)] m0 m0 := zfr_rf _ _
  refine zw_eq (zr_190_0 n a0 m0) ?_
  have r23 : 0 ≤ (m0 a0 81) ∧ (m0 a0 81) ≤ 20 := zi_rd hIm0 hc0 zb_28_81
  refine zw_ite (fun h24 => ?_) (fun h24 => ?_)
  · have w25 := zu_w32_id (z := 22 * (m0 a0 81)) (by omega) (by omega)
    refine zw_bd (zw_mono (zk_188_28_137 n hIm0 hc0 zq_228 ⟨by omega, by omega⟩ (by omega)) (fun v27 m26 hqm26 => ?_))
    obtain ⟨hIm26, hfm26, hvm26⟩ := hqm26
    have hFm26 := zfr_tr hFm0 hfm26 rfl
    have r28 : 0 ≤ (m26 a0 81) ∧ (m26 a0 81) ≤ 20 := zi_rd hIm26 hc0 zb_28_81
    have e29 : (m26 a0 81) = (m0 a0 81) := (zfr_ap hfm26 hc0 rfl)
    have w30 := zu_w32_id (z := (m26 a0 81) + 1) (by omega) (by omega)
    generalize hmm31 : zu_up m26 a0 81 (zu_w32 ((m26 a0 81) + 1)) = m31
    have hIm31 := zi_up hmm31 hIm26 hc0 zb_28_81 (by omega) (by omega)
    have hFm31 := zfr_up hmm31 hFm26 hc0 rfl
    have r32 : 0 ≤ (m31 a0 81) ∧ (m31 a0 81) ≤ 20 := zi_rd hIm31 hc0 zb_28_81
    have e33 : (m31 a0 81) = (zu_w32 ((m26 a0 81) + 1)) := (zs_eq hmm31)
    exact zw_some ⟨hIm31, hFm31, trivial, ⟨by omega, by omega⟩⟩
  · have hM : (439 - 0) * 1 + 0 < ((440 : Nat) : Int) := by omega
    exact (zl_190 n (m0 := m0) hc0 440) 0 m0 hIm0 hFm0 ⟨by omega, by omega⟩ ⟨by omega, by omega⟩ hM
set_option maxHeartbeats 4000000 in
theorem zl_191 (n : Nat) {a0 : Int} {m0 : zu_m} (hc0 : zcls a0 = 28)   : ∀ k : Nat, (∀ (x1 x2 : Int) (mh : zu_m), zi_I mh → zfr [(28, 3), (28, 63), (28, 82), (106, 0), (107, 0), (108, 0), (124, 0), (125, 1), (126, 0)] m0 mh → (0 ≤ x1 ∧ x1 ≤ 16) → (0 ≤ x2 ∧ x2 ≤ 16) → (0 ≤ mh a0 2 ∧ mh a0 2 ≤ 0) → (0 ≤ mh a0 81 ∧ mh a0 81 ≤ 19) → (16 - x2) * 1 + 0 < (k : Int) → zw (zu_ex (zt_T n) 191 48 [(40, a0), (0, x1), (0, x2)] [] mh) (fun v m => zi_I m ∧ zfr [(28, 3), (28, 63), (28, 82), (106, 0), (107, 0), (108, 0), (124, 0), (125, 1), (126, 0)] m0 m ∧ ((-1) ≤ v ∧ v ≤ 20) ∧ (0 ≤ m a0 2 ∧ m a0 2 ≤ 0))) := by
  intro k
  induction k with
  | zero => exact fun x1 x2 mh hImh hFmh hbx1 hbx2 hg2 hg3 hM => by exfalso; omega
  | succ k ih =>
    intro x1 x2 mh hImh hFmh hbx1 hbx2 hg2 hg3 hM
    refine zw_eq (zr_191_48 n a0 x1 x2 mh) ?_
    have b1 : 0 ≤ (0 : Int) ∧ (0 : Int) < 2 := by omega
    refine zw_if b1 ?_
    have r2 : 0 ≤ (mh 216 0) ∧ (mh 216 0) ≤ 16 := zi_rdr (m := 2) (r0 := 0) (r1 := 0) hImh zq_216 (by omega) (by decide +kernel)
    refine zw_ite (fun h3 => ?_) (fun h3 => ?_)
    · exact zw_some ⟨hImh, hFmh, ⟨by omega, by omega⟩, ⟨by omega, by omega⟩⟩
    · have b4 : 0 ≤ x2 ∧ x2 < 36 := by omega
      refine zw_if b4 ?_
      generalize hmm5 : zu_up mh 215 x2 (-1) = m5
      have hIm5 := zi_up hmm5 hImh zq_215 (zb_124 _) (by omega) (by omega)
      have hFm5 := zfr_up hmm5 hFmh zq_215 rfl
      have w6 := zu_w32_id (z := x2 + 1) (by omega) (by omega)
      have r7 : (-2147483648) ≤ (m5 a0 2) ∧ (m5 a0 2) ≤ 2147483647 := zi_rd hIm5 hc0 zb_28_2
      have e8 : (m5 a0 2) = (mh a0 2) := (zs_ne hmm5 (Or.inl (zc_ne hc0 zq_215 (by decide))))
      have r9 : 0 ≤ (m5 a0 81) ∧ (m5 a0 81) ≤ 20 := zi_rd hIm5 hc0 zb_28_81
      have e10 : (m5 a0 81) = (mh a0 81) := (zs_ne hmm5 (Or.inl (zc_ne hc0 zq_215 (by decide))))
      have hM : (16 - (zu_w32 (x2 + 1))) * 1 + 0 < (k : Int) := by omega
      exact ih x1 (zu_w32 (x2 + 1)) m5 hIm5 hFm5 ⟨by omega, by omega⟩ ⟨by omega, by omega⟩ ⟨by omega, by omega⟩ ⟨by omega, by omega⟩ hM
set_option maxHeartbeats 4000000 in
theorem zk_191 (n : Nat) {a0 : Int} {m0 : zu_m} (hIm0 : zi_I m0) (hc0 : zcls a0 = 28)      : zw (zu_call (zt_T n) 191 [(40, a0)] m0) (fun v m => zi_I m ∧ zfr [(28, 3), (28, 63), (28, 82), (106, 0), (107, 0), (108, 0), (124, 0), (125, 1), (126, 0)] m0 m ∧ ((-1) ≤ v ∧ v ≤ 20) ∧ (0 ≤ m a0 2 ∧ m a0 2 ≤ 0)) := by
  have hFm0 : zfr [(28, 3), (28, 63), (28, 82), (106, 0), (107, 0), (108, 0), (124, 0), (125, 1), (126, 0)] m0 m0 := zfr_rf _ _
  refine zw_eq (zr_191_0 n a0 m0) ?_
  generalize hmm11 : zu_up m0 a0 2 0 = m11
  have hIm11 := zi_up hmm11 hIm0 hc0 zb_28_2 (by omega) (by omega)
  have hFm11 := zfr_up hmm11 hFm0 hc0 rfl
  have r12 : 0 ≤ (m11 a0 81) ∧ (m11 a0 81) ≤ 20 := zi_rd hIm11 hc0 zb_28_81
  refine zw_ite (fun h13 => ?_) (fun h13 => ?_)
  · have w14 := zu_w32_id (z := (m11 a0 81) - 1) (by omega) (by omega)
    generalize hmm15 : zu_up m11 a0 81 (zu_w32 ((m11 a0 81) - 1)) = m15
    have hIm15 := zi_up hmm15 hIm11 hc0 zb_28_81 (by omega) (by omega)
    have hFm15 := zfr_up hmm15 hFm11 hc0 rfl
    have b16 : 0 ≤ (0 : Int) ∧ (0 : Int) < 2 := by omega
    refine zw_if b16 ?_
    have r17 : 0 ≤ (m15 216 0) ∧ (m15 216 0) ≤ 16 := zi_rdr (m := 2) (r0 := 0) (r1 := 0) hIm15 zq_216 (by omega) (by decide +kernel)
    have r18 : 0 ≤ (m15 a0 81) ∧ (m15 a0 81) ≤ 20 := zi_rd hIm15 hc0 zb_28_81
    have e19 : (m15 a0 81) = (zu_w32 ((m11 a0 81) - 1)) := (zs_eq hmm15)
    have w20 := zu_w32_id (z := 22 * (m15 a0 81)) (by omega) (by omega)
    refine zw_bd (zw_mono (zk_189_28_137 n hIm15 hc0 zq_228 ⟨by omega, by omega⟩ (by omega)) (fun v22 m21 hqm21 => ?_))
    obtain ⟨hIm21, hfm21, hvm21⟩ := hqm21
    have hFm21 := zfr_tr hFm15 hfm21 rfl
    have r23 : (-2147483648) ≤ (m21 a0 2) ∧ (m21 a0 2) ≤ 2147483647 := zi_rd hIm21 hc0 zb_28_2
    have e24 : (m21 a0 2) = 0 := (Eq.trans (zfr_ap hfm21 hc0 rfl) (Eq.trans (zs_ne hmm15 (Or.inr (by decide))) (zs_eq hmm11)))
    have r25 : 0 ≤ (m21 a0 81) ∧ (m21 a0 81) ≤ 20 := zi_rd hIm21 hc0 zb_28_81
    have e26 : (m21 a0 81) = (m15 a0 81) := (zfr_ap hfm21 hc0 rfl)
    have hM : (16 - (m15 216 0)) * 1 + 0 < ((17 : Nat) : Int) := by omega
    exact (zl_191 n (m0 := m0) hc0 17) (m15 216 0) (m15 216 0) m21 hIm21 hFm21 ⟨by omega, by omega⟩ ⟨by omega, by omega⟩ ⟨by omega, by omega⟩ ⟨by omega, by omega⟩ hM
  · have r27 : (-2147483648) ≤ (m11 a0 2) ∧ (m11 a0 2) ≤ 2147483647 := zi_rd hIm11 hc0 zb_28_2
    have e28 : (m11 a0 2) = 0 := (zs_eq hmm11)
    exact zw_some ⟨hIm11, hFm11, ⟨by omega, by omega⟩, ⟨by omega, by omega⟩⟩

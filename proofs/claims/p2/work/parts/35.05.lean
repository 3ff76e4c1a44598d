set_option maxHeartbeats 4000000 in
theorem zl_89 (n : Nat) {a0 : Int} {m0 : zu_m} (hc0 : zcls a0 = 28)   : ∀ k : Nat, (∀ (mh : zu_m), zi_I mh → zfr [(28, 8), (28, 9), (28, 10), (28, 11)] m0 mh → ((m0 a0 7) ≤ (mh a0 7)) → (zR_NS mh) → (zR_WD mh) → (700 - (mh a0 7)) * 1 + 1402 < (k : Int) → zw (zu_ex (zt_T n) 89 0 [(40, a0)] [] mh) (fun v m => zi_I m ∧ zfr [(28, 8), (28, 9), (28, 10), (28, 11)] m0 m ∧ zR_NS m ∧ zR_TR m ∧ zR_WD m ∧ True ∧ ((m0 a0 7) ≤ (m a0 7)) ∧ ((m a0 8) = 0 ∨ (m0 a0 7) < (m a0 7)))) ∧ (∀ (mh : zu_m), zi_I mh → zfr [(28, 8), (28, 9), (28, 10), (28, 11)] m0 mh → (0 ≤ mh a0 10 ∧ mh a0 10 ≤ 699) → (1 ≤ mh a0 6 ∧ mh a0 6 ≤ 700) → ((m0 a0 7) ≤ (mh a0 7)) → ((mh a0 10) = (mh a0 7) → ((mh a0 7) < (mh a0 6))) → (zR_NS mh) → (zR_WD mh) → (700 - (mh a0 7)) * 1 + 701 < (k : Int) → zw (zu_ex (zt_T n) 89 90 [(40, a0)] [] mh) (fun v m => zi_I m ∧ zfr [(28, 8), (28, 9), (28, 10), (28, 11)] m0 m ∧ zR_NS m ∧ zR_TR m ∧ zR_WD m ∧ True ∧ ((m0 a0 7) ≤ (m a0 7)) ∧ ((m a0 8) = 0 ∨ (m0 a0 7) < (m a0 7)))) ∧ (∀ (mh : zu_m), zi_I mh → zfr [(28, 8), (28, 9), (28, 10), (28, 11)] m0 mh → (0 ≤ mh a0 10 ∧ mh a0 10 ≤ 699) → (1 ≤ mh a0 6 ∧ mh a0 6 ≤ 700) → (3 ≤ mh a0 8 ∧ mh a0 8 ≤ 3) → (0 ≤ mh a0 9 ∧ mh a0 9 ≤ 999999) → ((m0 a0 7) ≤ (mh a0 7)) → ((mh a0 8) = 3) → (0 ≤ (mh a0 9)) → (zR_NS mh) → (zR_WD mh) → (700 - (mh a0 7)) * 1 + 0 < (k : Int) → zw (zu_ex (zt_T n) 89 213 [(40, a0)] [] mh) (fun v m => zi_I m ∧ zfr [(28, 8), (28, 9), (28, 10), (28, 11)] m0 m ∧ zR_NS m ∧ zR_TR m ∧ zR_WD m ∧ True ∧ ((m0 a0 7) ≤ (m a0 7)) ∧ ((m a0 8) = 0 ∨ (m0 a0 7) < (m a0 7)))) := by
  intro k
  induction k with
  | zero => exact ⟨fun mh hImh hFmh hH0 hRNSmh hRWDmh hM => by exfalso; omega, fun mh hImh hFmh hg0 hg1 hH0 hH1 hRNSmh hRWDmh hM => by exfalso; omega, fun mh hImh hFmh hg0 hg1 hg2 hg3 hH0 hH1 hH2 hRNSmh hRWDmh hM => by exfalso; omega⟩
  | succ k ih =>
    refine ⟨?_, ?_, ?_⟩
    · intro mh hImh hFmh hH0 hRNSmh hRWDmh hM
      refine zw_eq (zu_rega_at (zt_T n) (zm_89 n) (zdp_89 n) _ _ _ _ _ _ (zr_89_0 n _ _ a0 mh)) ?_
      have r1 : 0 ≤ (mh a0 7) ∧ (mh a0 7) ≤ 700 := zi_rd hImh hc0 zb_28_7
      have s2 := hRNSmh a0 hc0
      have r3 : 0 ≤ (mh a0 6) ∧ (mh a0 6) ≤ 700 := zi_rd hImh hc0 zb_28_6
      refine zw_ite (fun h4 => ?_) (fun h4 => ?_)
      · generalize hmm5 : zu_up mh a0 10 (mh a0 7) = m5
        have hIm5 := zi_up hmm5 hImh hc0 zb_28_10 (by omega) (by omega)
        have hFm5 := zfr_up hmm5 hFmh hc0 rfl
        have hRNSm5 := zR_NS_fr (zdis_fr (zfr_up hmm5 (zfr_rf [(28, 11)] _) hc0 rfl) rfl) hRNSmh
        have hRWDm5 := zR_WD_fr (zdis_fr (zfr_up hmm5 (zfr_rf [(28, 11)] _) hc0 rfl) rfl) hRWDmh
        have r6 : 0 ≤ (m5 a0 7) ∧ (m5 a0 7) ≤ 700 := zi_rd hIm5 hc0 zb_28_7
        have e7 : (m5 a0 7) = (mh a0 7) := (zs_ne hmm5 (Or.inr (by decide)))
        have r8 : 0 ≤ (m5 a0 6) ∧ (m5 a0 6) ≤ 700 := zi_rd hIm5 hc0 zb_28_6
        have e9 : (m5 a0 6) = (mh a0 6) := (zs_ne hmm5 (Or.inr (by decide)))
        refine zw_ite (fun h10 => ?_) (fun h10 => ?_)
        · exfalso; omega
        · generalize hmm11 : zu_up m5 a0 8 0 = m11
          have hIm11 := zi_up hmm11 hIm5 hc0 zb_28_8 (by omega) (by omega)
          have hFm11 := zfr_up hmm11 hFm5 hc0 rfl
          have hRNSm11 := zR_NS_fr (zdis_fr (zfr_up hmm11 (zfr_rf [(28, 9)] _) hc0 rfl) rfl) hRNSm5
          have hRWDm11 := zR_WD_fr (zdis_fr (zfr_up hmm11 (zfr_rf [(28, 9)] _) hc0 rfl) rfl) hRWDm5
          have r12 : 0 ≤ (m11 a0 8) ∧ (m11 a0 8) ≤ 6 := zi_rd hIm11 hc0 zb_28_8
          have e13 : (m11 a0 8) = 0 := (zs_eq hmm11)
          have r14 : (-2147483648) ≤ (m11 a0 9) ∧ (m11 a0 9) ≤ 2147483647 := zi_rd hIm11 hc0 zb_28_9
          have hRTRm11 := zR_TR_of hc0 (show (m11 a0 8 = 5 → (0 ≤ m11 a0 9 ∧ m11 a0 9 ≤ 5)) ∧ (m11 a0 8 = 1 → (0 ≤ m11 a0 9 ∧ m11 a0 9 ≤ 32)) ∧ (m11 a0 8 = 3 → 0 ≤ m11 a0 9) by omega)
          have r15 : 0 ≤ (m11 a0 7) ∧ (m11 a0 7) ≤ 700 := zi_rd hIm11 hc0 zb_28_7
          have e16 : (m11 a0 7) = (m5 a0 7) := (zs_ne hmm11 (Or.inr (by decide)))
          exact zw_some ⟨hIm11, hFm11, hRNSm11, hRTRm11, hRWDm11, trivial, by omega, by omega⟩
      · have b17 : 0 ≤ (mh a0 7) ∧ (mh a0 7) < 700 := by omega
        refine zw_if b17 ?_
        have r18 : (-2147483648) ≤ (mh 191 (mh a0 7)) ∧ (mh 191 (mh a0 7)) ≤ 2147483647 := zi_rd hImh zq_191 (zb_100 _)
        refine zw_ite (fun h19 => ?_) (fun h19 => ?_)
        · have w20 := zu_w32_id (z := (mh a0 7) + 1) (by omega) (by omega)
          generalize hmm21 : zu_up mh a0 7 (zu_w32 ((mh a0 7) + 1)) = m21
          have hIm21 := zi_up hmm21 hImh hc0 zb_28_7 (by omega) (by omega)
          have hFm21 := zfr_up hmm21 hFmh hc0 rfl
          have hRWDm21 := zR_WD_fr (zdis_fr (zfr_up hmm21 (zfr_rf [(28, 8)] _) hc0 rfl) rfl) hRWDmh
          have r22 : 0 ≤ (m21 a0 7) ∧ (m21 a0 7) ≤ 700 := zi_rd hIm21 hc0 zb_28_7
          have e23 : (m21 a0 7) = (zu_w32 ((mh a0 7) + 1)) := (zs_eq hmm21)
          have r24 : 0 ≤ (m21 a0 6) ∧ (m21 a0 6) ≤ 700 := zi_rd hIm21 hc0 zb_28_6
          have e25 : (m21 a0 6) = (mh a0 6) := (zs_ne hmm21 (Or.inr (by decide)))
          have hRNSm21 := zR_NS_of hc0 (show m21 a0 7 ≤ m21 a0 6 by omega)
          have hM : (700 - (m21 a0 7)) * 1 + 1402 < (k : Int) := by omega
          exact ih.1  m21 hIm21 hFm21 (by omega) hRNSm21 hRWDm21 hM
        · have b26 : 0 ≤ (mh a0 7) ∧ (mh a0 7) < 700 := by omega
          refine zw_if b26 ?_
          refine zw_ite (fun h27 => ?_) (fun h27 => ?_)
          · generalize hmm28 : zu_up mh a0 10 (mh a0 7) = m28
            have hIm28 := zi_up hmm28 hImh hc0 zb_28_10 (by omega) (by omega)
            have hFm28 := zfr_up hmm28 hFmh hc0 rfl
            have hRNSm28 := zR_NS_fr (zdis_fr (zfr_up hmm28 (zfr_rf [(28, 11)] _) hc0 rfl) rfl) hRNSmh
            have hRWDm28 := zR_WD_fr (zdis_fr (zfr_up hmm28 (zfr_rf [(28, 11)] _) hc0 rfl) rfl) hRWDmh
            have r29 : 0 ≤ (m28 a0 7) ∧ (m28 a0 7) ≤ 700 := zi_rd hIm28 hc0 zb_28_7
            have e30 : (m28 a0 7) = (mh a0 7) := (zs_ne hmm28 (Or.inr (by decide)))
            have r31 : 0 ≤ (m28 a0 6) ∧ (m28 a0 6) ≤ 700 := zi_rd hIm28 hc0 zb_28_6
            have e32 : (m28 a0 6) = (mh a0 6) := (zs_ne hmm28 (Or.inr (by decide)))
            refine zw_ite (fun h33 => ?_) (fun h33 => ?_)
            · refine zw_bd (zw_eq (zu_call_at (zt_T n) (zm_87 n) (zdp_87 n) _ _ _ _ _ rfl (zr_87_0 n _ _ a0 (m28 a0 7) m28)) ?_)
              refine zw_ite (fun h34 => ?_) (fun h34 => ?_)
              · refine zw_b (by omega) ?_
                refine zw_some ?_
                refine zw_ite (fun h35 => ?_) (fun h35 => ?_)
                · refine zw_bd (zw_eq (zu_call_at (zt_T n) (zm_88 n) (zdp_88 n) _ _ _ _ _ rfl (zr_88_0 n _ _ a0 (m28 a0 7) m28)) ?_)
                  refine zw_ite (fun h36 => ?_) (fun h36 => ?_)
                  · refine zw_b (by omega) ?_
                    refine zw_some ?_
                    refine zw_ite (fun h37 => ?_) (fun h37 => ?_)
                    · refine zw_bd (zw_mono (zk_90 n hIm28 hc0 ⟨by omega, by omega⟩ ⟨by omega, by omega⟩ (by omega) hRNSm28) (fun v39 m38 hqm38 => ?_))
                      obtain ⟨hIm38, hfm38, hvm38⟩ := hqm38
                      have hFm38 := zfr_tr hFm28 hfm38 rfl
                      obtain ⟨hRNSm38, hvm38⟩ := hvm38
                      have hRWDm38 := zR_WD_fr (zdis_fr hfm38 rfl) hRWDm28
                      have s40 := hRNSm38 a0 hc0
                      have r41 : 0 ≤ (m38 a0 8) ∧ (m38 a0 8) ≤ 6 := zi_rd hIm38 hc0 zb_28_8
                      have r42 : (-2147483648) ≤ (m38 a0 9) ∧ (m38 a0 9) ≤ 2147483647 := zi_rd hIm38 hc0 zb_28_9
                      have hRTRm38 := zR_TR_of hc0 (show (m38 a0 8 = 5 → (0 ≤ m38 a0 9 ∧ m38 a0 9 ≤ 5)) ∧ (m38 a0 8 = 1 → (0 ≤ m38 a0 9 ∧ m38 a0 9 ≤ 32)) ∧ (m38 a0 8 = 3 → 0 ≤ m38 a0 9) by omega)
                      exact zw_some ⟨hIm38, hFm38, hRNSm38, hRTRm38, hRWDm38, trivial, by omega, by omega⟩
                    · exfalso; omega
                  · exfalso; omega
                · exfalso; omega
              · have b43 : 0 ≤ (m28 a0 7) ∧ (m28 a0 7) < 700 := by omega
                refine zw_if b43 ?_
                have r44 : (-2147483648) ≤ (m28 191 (m28 a0 7)) ∧ (m28 191 (m28 a0 7)) ≤ 2147483647 := zi_rd hIm28 zq_191 (zb_100 _)
                refine zw_ite (fun h45 => ?_) (fun h45 => ?_)
                · refine zw_b (by omega) ?_
                  refine zw_some ?_
                  refine zw_ite (fun h46 => ?_) (fun h46 => ?_)
                  · refine zw_bd (zw_eq (zu_call_at (zt_T n) (zm_88 n) (zdp_88 n) _ _ _ _ _ rfl (zr_88_0 n _ _ a0 (m28 a0 7) m28)) ?_)
                    refine zw_ite (fun h47 => ?_) (fun h47 => ?_)
                    · refine zw_b (by omega) ?_
                      refine zw_some ?_
                      refine zw_ite (fun h48 => ?_) (fun h48 => ?_)
                      · refine zw_bd (zw_mono (zk_90 n hIm28 hc0 ⟨by omega, by omega⟩ ⟨by omega, by omega⟩ (by omega) hRNSm28) (fun v50 m49 hqm49 => ?_))
                        obtain ⟨hIm49, hfm49, hvm49⟩ := hqm49
                        have hFm49 := zfr_tr hFm28 hfm49 rfl
                        obtain ⟨hRNSm49, hvm49⟩ := hvm49
                        have hRWDm49 := zR_WD_fr (zdis_fr hfm49 rfl) hRWDm28
                        have s51 := hRNSm49 a0 hc0
                        have r52 : 0 ≤ (m49 a0 8) ∧ (m49 a0 8) ≤ 6 := zi_rd hIm49 hc0 zb_28_8
                        have r53 : (-2147483648) ≤ (m49 a0 9) ∧ (m49 a0 9) ≤ 2147483647 := zi_rd hIm49 hc0 zb_28_9
                        have hRTRm49 := zR_TR_of hc0 (show (m49 a0 8 = 5 → (0 ≤ m49 a0 9 ∧ m49 a0 9 ≤ 5)) ∧ (m49 a0 8 = 1 → (0 ≤ m49 a0 9 ∧ m49 a0 9 ≤ 32)) ∧ (m49 a0 8 = 3 → 0 ≤ m49 a0 9) by omega)
                        exact zw_some ⟨hIm49, hFm49, hRNSm49, hRTRm49, hRWDm49, trivial, by omega, by omega⟩
                      · exfalso; omega
                    · have b54 : 0 ≤ (m28 a0 7) ∧ (m28 a0 7) < 700 := by omega
                      refine zw_if b54 ?_
                      refine zw_ite (fun h55 => ?_) (fun h55 => ?_)
                      · refine zw_b (by omega) ?_
                        refine zw_some ?_
                        refine zw_ite (fun h56 => ?_) (fun h56 => ?_)
                        · refine zw_bd (zw_mono (zk_90 n hIm28 hc0 ⟨by omega, by omega⟩ ⟨by omega, by omega⟩ (by omega) hRNSm28) (fun v58 m57 hqm57 => ?_))
                          obtain ⟨hIm57, hfm57, hvm57⟩ := hqm57
                          have hFm57 := zfr_tr hFm28 hfm57 rfl
                          obtain ⟨hRNSm57, hvm57⟩ := hvm57
                          have hRWDm57 := zR_WD_fr (zdis_fr hfm57 rfl) hRWDm28
                          have s59 := hRNSm57 a0 hc0
                          have r60 : 0 ≤ (m57 a0 8) ∧ (m57 a0 8) ≤ 6 := zi_rd hIm57 hc0 zb_28_8
                          have r61 : (-2147483648) ≤ (m57 a0 9) ∧ (m57 a0 9) ≤ 2147483647 := zi_rd hIm57 hc0 zb_28_9
                          have hRTRm57 := zR_TR_of hc0 (show (m57 a0 8 = 5 → (0 ≤ m57 a0 9 ∧ m57 a0 9 ≤ 5)) ∧ (m57 a0 8 = 1 → (0 ≤ m57 a0 9 ∧ m57 a0 9 ≤ 32)) ∧ (m57 a0 8 = 3 → 0 ≤ m57 a0 9) by omega)
                          exact zw_some ⟨hIm57, hFm57, hRNSm57, hRTRm57, hRWDm57, trivial, by omega, by omega⟩
                        · exfalso; omega
                      · have b62 : 0 ≤ (m28 a0 7) ∧ (m28 a0 7) < 700 := by omega
                        refine zw_if b62 ?_
                        refine zw_ite (fun h63 => ?_) (fun h63 => ?_)
                        · refine zw_b (by omega) ?_
                          refine zw_some ?_
                          refine zw_ite (fun h64 => ?_) (fun h64 => ?_)
                          · refine zw_bd (zw_mono (zk_90 n hIm28 hc0 ⟨by omega, by omega⟩ ⟨by omega, by omega⟩ (by omega) hRNSm28) (fun v66 m65 hqm65 => ?_))
                            obtain ⟨hIm65, hfm65, hvm65⟩ := hqm65
                            have hFm65 := zfr_tr hFm28 hfm65 rfl
                            obtain ⟨hRNSm65, hvm65⟩ := hvm65
                            have hRWDm65 := zR_WD_fr (zdis_fr hfm65 rfl) hRWDm28
                            have s67 := hRNSm65 a0 hc0
                            have r68 : 0 ≤ (m65 a0 8) ∧ (m65 a0 8) ≤ 6 := zi_rd hIm65 hc0 zb_28_8
                            have r69 : (-2147483648) ≤ (m65 a0 9) ∧ (m65 a0 9) ≤ 2147483647 := zi_rd hIm65 hc0 zb_28_9
                            have hRTRm65 := zR_TR_of hc0 (show (m65 a0 8 = 5 → (0 ≤ m65 a0 9 ∧ m65 a0 9 ≤ 5)) ∧ (m65 a0 8 = 1 → (0 ≤ m65 a0 9 ∧ m65 a0 9 ≤ 32)) ∧ (m65 a0 8 = 3 → 0 ≤ m65 a0 9) by omega)
                            exact zw_some ⟨hIm65, hFm65, hRNSm65, hRTRm65, hRWDm65, trivial, by omega, by omega⟩
                          · exfalso; omega
                        · refine zw_b (by omega) ?_
                          refine zw_some ?_
                          refine zw_ite (fun h70 => ?_) (fun h70 => ?_)
                          · exfalso; omega
                          · generalize hmm71 : zu_up m28 a0 8 3 = m71
                            have hIm71 := zi_up hmm71 hIm28 hc0 zb_28_8 (by omega) (by omega)
                            have hFm71 := zfr_up hmm71 hFm28 hc0 rfl
                            have hRNSm71 := zR_NS_fr (zdis_fr (zfr_up hmm71 (zfr_rf [(28, 9)] _) hc0 rfl) rfl) hRNSm28
                            have hRWDm71 := zR_WD_fr (zdis_fr (zfr_up hmm71 (zfr_rf [(28, 9)] _) hc0 rfl) rfl) hRWDm28
                            generalize hmm72 : zu_up m71 a0 9 0 = m72
                            have hIm72 := zi_up hmm72 hIm71 hc0 zb_28_9 (by omega) (by omega)
                            have hFm72 := zfr_up hmm72 hFm71 hc0 rfl
                            have hRNSm72 := zR_NS_fr (zdis_fr (zfr_up hmm72 (zfr_rf [(28, 10)] _) hc0 rfl) rfl) hRNSm71
                            have hRWDm72 := zR_WD_fr (zdis_fr (zfr_up hmm72 (zfr_rf [(28, 10)] _) hc0 rfl) rfl) hRWDm71
                            have r73 : 0 ≤ (m72 a0 6) ∧ (m72 a0 6) ≤ 700 := zi_rd hIm72 hc0 zb_28_6
                            have e74 : (m72 a0 6) = (m28 a0 6) := (Eq.trans (zs_ne hmm72 (Or.inr (by decide))) (zs_ne hmm71 (Or.inr (by decide))))
                            have r75 : 0 ≤ (m72 a0 10) ∧ (m72 a0 10) ≤ 700 := zi_rd hIm72 hc0 zb_28_10
                            have e76 : (m72 a0 10) = (mh a0 7) := (Eq.trans (zs_ne hmm72 (Or.inr (by decide))) (Eq.trans (zs_ne hmm71 (Or.inr (by decide))) (zs_eq hmm28)))
                            have r77 : 0 ≤ (m72 a0 8) ∧ (m72 a0 8) ≤ 6 := zi_rd hIm72 hc0 zb_28_8
                            have e78 : (m72 a0 8) = 3 := (Eq.trans (zs_ne hmm72 (Or.inr (by decide))) (zs_eq hmm71))
                            have r79 : (-2147483648) ≤ (m72 a0 9) ∧ (m72 a0 9) ≤ 2147483647 := zi_rd hIm72 hc0 zb_28_9
                            have e80 : (m72 a0 9) = 0 := (zs_eq hmm72)
                            have r81 : 0 ≤ (m72 a0 7) ∧ (m72 a0 7) ≤ 700 := zi_rd hIm72 hc0 zb_28_7
                            have e82 : (m72 a0 7) = (m28 a0 7) := (Eq.trans (zs_ne hmm72 (Or.inr (by decide))) (zs_ne hmm71 (Or.inr (by decide))))
                            have hM : (700 - (m72 a0 7)) * 1 + 0 < (k : Int) := by omega
                            exact ih.2.2  m72 hIm72 hFm72 ⟨by omega, by omega⟩ ⟨by omega, by omega⟩ ⟨by omega, by omega⟩ ⟨by omega, by omega⟩ (by omega) (by omega) (by omega) hRNSm72 hRWDm72 hM
                  · exfalso; omega
                · have b83 : 0 ≤ (m28 a0 7) ∧ (m28 a0 7) < 700 := by omega
                  refine zw_if b83 ?_
                  refine zw_ite (fun h84 => ?_) (fun h84 => ?_)
                  · refine zw_b (by omega) ?_
                    refine zw_some ?_
                    refine zw_ite (fun h85 => ?_) (fun h85 => ?_)
                    · refine zw_bd (zw_eq (zu_call_at (zt_T n) (zm_88 n) (zdp_88 n) _ _ _ _ _ rfl (zr_88_0 n _ _ a0 (m28 a0 7) m28)) ?_)
                      refine zw_ite (fun h86 => ?_) (fun h86 => ?_)
                      · refine zw_b (by omega) ?_
                        refine zw_some ?_
                        refine zw_ite (fun h87 => ?_) (fun h87 => ?_)
                        · refine zw_bd (zw_mono (zk_90 n hIm28 hc0 ⟨by omega, by omega⟩ ⟨by omega, by omega⟩ (by omega) hRNSm28) (fun v89 m88 hqm88 => ?_))
                          obtain ⟨hIm88, hfm88, hvm88⟩ := hqm88
                          have hFm88 := zfr_tr hFm28 hfm88 rfl
                          obtain ⟨hRNSm88, hvm88⟩ := hvm88
                          have hRWDm88 := zR_WD_fr (zdis_fr hfm88 rfl) hRWDm28
                          have s90 := hRNSm88 a0 hc0
                          have r91 : 0 ≤ (m88 a0 8) ∧ (m88 a0 8) ≤ 6 := zi_rd hIm88 hc0 zb_28_8
                          have r92 : (-2147483648) ≤ (m88 a0 9) ∧ (m88 a0 9) ≤ 2147483647 := zi_rd hIm88 hc0 zb_28_9
                          have hRTRm88 := zR_TR_of hc0 (show (m88 a0 8 = 5 → (0 ≤ m88 a0 9 ∧ m88 a0 9 ≤ 5)) ∧ (m88 a0 8 = 1 → (0 ≤ m88 a0 9 ∧ m88 a0 9 ≤ 32)) ∧ (m88 a0 8 = 3 → 0 ≤ m88 a0 9) by omega)
                          exact zw_some ⟨hIm88, hFm88, hRNSm88, hRTRm88, hRWDm88, trivial, by omega, by omega⟩
                        · exfalso; omega
                      · have b93 : 0 ≤ (m28 a0 7) ∧ (m28 a0 7) < 700 := by omega
                        refine zw_if b93 ?_
                        refine zw_ite (fun h94 => ?_) (fun h94 => ?_)
                        · exfalso; omega
                        · have b95 : 0 ≤ (m28 a0 7) ∧ (m28 a0 7) < 700 := by omega
                          refine zw_if b95 ?_
                          refine zw_ite (fun h96 => ?_) (fun h96 => ?_)
                          · refine zw_b (by omega) ?_
                            refine zw_some ?_
                            refine zw_ite (fun h97 => ?_) (fun h97 => ?_)
                            · refine zw_bd (zw_mono (zk_90 n hIm28 hc0 ⟨by omega, by omega⟩ ⟨by omega, by omega⟩ (by omega) hRNSm28) (fun v99 m98 hqm98 => ?_))
                              obtain ⟨hIm98, hfm98, hvm98⟩ := hqm98
                              have hFm98 := zfr_tr hFm28 hfm98 rfl
                              obtain ⟨hRNSm98, hvm98⟩ := hvm98
                              have hRWDm98 := zR_WD_fr (zdis_fr hfm98 rfl) hRWDm28
                              have s100 := hRNSm98 a0 hc0
                              have r101 : 0 ≤ (m98 a0 8) ∧ (m98 a0 8) ≤ 6 := zi_rd hIm98 hc0 zb_28_8
                              have r102 : (-2147483648) ≤ (m98 a0 9) ∧ (m98 a0 9) ≤ 2147483647 := zi_rd hIm98 hc0 zb_28_9
                              have hRTRm98 := zR_TR_of hc0 (show (m98 a0 8 = 5 → (0 ≤ m98 a0 9 ∧ m98 a0 9 ≤ 5)) ∧ (m98 a0 8 = 1 → (0 ≤ m98 a0 9 ∧ m98 a0 9 ≤ 32)) ∧ (m98 a0 8 = 3 → 0 ≤ m98 a0 9) by omega)
                              exact zw_some ⟨hIm98, hFm98, hRNSm98, hRTRm98, hRWDm98, trivial, by omega, by omega⟩
                            · exfalso; omega
                          · exfalso; omega
                    · exfalso; omega
                  · refine zw_b (by omega) ?_
                    refine zw_some ?_
                    refine zw_ite (fun h103 => ?_) (fun h103 => ?_)
                    · exfalso; omega
                    · have r104 : 0 ≤ (m28 a0 10) ∧ (m28 a0 10) ≤ 700 := zi_rd hIm28 hc0 zb_28_10
                      have e105 : (m28 a0 10) = (mh a0 7) := (zs_eq hmm28)
                      have hM : (700 - (m28 a0 7)) * 1 + 701 < (k : Int) := by omega
                      exact ih.2.1  m28 hIm28 hFm28 ⟨by omega, by omega⟩ ⟨by omega, by omega⟩ (by omega) (by omega) hRNSm28 hRWDm28 hM
            · generalize hmm106 : zu_up m28 a0 8 0 = m106
              have hIm106 := zi_up hmm106 hIm28 hc0 zb_28_8 (by omega) (by omega)
              have hFm106 := zfr_up hmm106 hFm28 hc0 rfl
              have hRNSm106 := zR_NS_fr (zdis_fr (zfr_up hmm106 (zfr_rf [(28, 9)] _) hc0 rfl) rfl) hRNSm28
              have hRWDm106 := zR_WD_fr (zdis_fr (zfr_up hmm106 (zfr_rf [(28, 9)] _) hc0 rfl) rfl) hRWDm28
              have r107 : 0 ≤ (m106 a0 8) ∧ (m106 a0 8) ≤ 6 := zi_rd hIm106 hc0 zb_28_8
              have e108 : (m106 a0 8) = 0 := (zs_eq hmm106)
              have r109 : (-2147483648) ≤ (m106 a0 9) ∧ (m106 a0 9) ≤ 2147483647 := zi_rd hIm106 hc0 zb_28_9
              have hRTRm106 := zR_TR_of hc0 (show (m106 a0 8 = 5 → (0 ≤ m106 a0 9 ∧ m106 a0 9 ≤ 5)) ∧ (m106 a0 8 = 1 → (0 ≤ m106 a0 9 ∧ m106 a0 9 ≤ 32)) ∧ (m106 a0 8 = 3 → 0 ≤ m106 a0 9) by omega)
              have r110 : 0 ≤ (m106 a0 7) ∧ (m106 a0 7) ≤ 700 := zi_rd hIm106 hc0 zb_28_7
              have e111 : (m106 a0 7) = (m28 a0 7) := (zs_ne hmm106 (Or.inr (by decide)))
              exact zw_some ⟨hIm106, hFm106, hRNSm106, hRTRm106, hRWDm106, trivial, by omega, by omega⟩
          · have w112 := zu_w32_id (z := (mh a0 7) + 1) (by omega) (by omega)
            generalize hmm113 : zu_up mh a0 7 (zu_w32 ((mh a0 7) + 1)) = m113
            have hIm113 := zi_up hmm113 hImh hc0 zb_28_7 (by omega) (by omega)
            have hFm113 := zfr_up hmm113 hFmh hc0 rfl
            have hRWDm113 := zR_WD_fr (zdis_fr (zfr_up hmm113 (zfr_rf [(28, 8)] _) hc0 rfl) rfl) hRWDmh
            have r114 : 0 ≤ (m113 a0 7) ∧ (m113 a0 7) ≤ 700 := zi_rd hIm113 hc0 zb_28_7
            have e115 : (m113 a0 7) = (zu_w32 ((mh a0 7) + 1)) := (zs_eq hmm113)
            have r116 : 0 ≤ (m113 a0 6) ∧ (m113 a0 6) ≤ 700 := zi_rd hIm113 hc0 zb_28_6
            have e117 : (m113 a0 6) = (mh a0 6) := (zs_ne hmm113 (Or.inr (by decide)))
            have hRNSm113 := zR_NS_of hc0 (show m113 a0 7 ≤ m113 a0 6 by omega)
            have hM : (700 - (m113 a0 7)) * 1 + 1402 < (k : Int) := by omega
            exact ih.1  m113 hIm113 hFm113 (by omega) hRNSm113 hRWDm113 hM
    · intro mh hImh hFmh hg0 hg1 hH0 hH1 hRNSmh hRWDmh hM
      refine zw_eq (zu_rega_at (zt_T n) (zm_89 n) (zdp_89 n) _ _ _ _ _ _ (zr_89_90 n _ _ a0 mh)) ?_
      have r118 : 0 ≤ (mh a0 7) ∧ (mh a0 7) ≤ 700 := zi_rd hImh hc0 zb_28_7
      have s119 := hRNSmh a0 hc0
      refine zw_bd (zw_eq (zu_call_at (zt_T n) (zm_87 n) (zdp_87 n) _ _ _ _ _ rfl (zr_87_0 n _ _ a0 (mh a0 7) mh)) ?_)
      refine zw_ite (fun h120 => ?_) (fun h120 => ?_)
      · refine zw_b (by omega) ?_
        refine zw_some ?_
        refine zw_ite (fun h121 => ?_) (fun h121 => ?_)
        · refine zw_bd (zw_mono (zk_86 n hImh hc0 ⟨by omega, by omega⟩ ⟨by omega, by omega⟩ hRWDmh) (fun v123 m122 hqm122 => ?_))
          obtain ⟨hIm122, hfm122, hvm122⟩ := hqm122
          have hFm122 := zfr_tr hFmh hfm122 rfl
          obtain ⟨hRWDm122, hvm122⟩ := hvm122
          have hRNSm122 := zR_NS_fr (zdis_fr hfm122 rfl) hRNSmh
          have s124 := hRNSm122 a0 hc0
          generalize hmm125 : zu_up m122 a0 9 v123 = m125
          have hIm125 := zi_up hmm125 hIm122 hc0 zb_28_9 (by omega) (by omega)
          have hFm125 := zfr_up hmm125 hFm122 hc0 rfl
          have hRNSm125 := zR_NS_fr (zdis_fr (zfr_up hmm125 (zfr_rf [(28, 10)] _) hc0 rfl) rfl) hRNSm122
          have hRWDm125 := zR_WD_fr (zdis_fr (zfr_up hmm125 (zfr_rf [(28, 10)] _) hc0 rfl) rfl) hRWDm122
          have r126 : (-2147483648) ≤ (m125 a0 9) ∧ (m125 a0 9) ≤ 2147483647 := zi_rd hIm125 hc0 zb_28_9
          have e127 : (m125 a0 9) = v123 := (zs_eq hmm125)
          refine zw_ite (fun h128 => ?_) (fun h128 => ?_)
          · have r129 : 0 ≤ (m125 a0 7) ∧ (m125 a0 7) ≤ 700 := zi_rd hIm125 hc0 zb_28_7
            have e130 : (m125 a0 7) = (mh a0 7) := (Eq.trans (zs_ne hmm125 (Or.inr (by decide))) (zfr_ap hfm122 hc0 rfl))
            have r131 : 0 ≤ (m125 a0 10) ∧ (m125 a0 10) ≤ 700 := zi_rd hIm125 hc0 zb_28_10
            have e132 : (m125 a0 10) = (mh a0 10) := (Eq.trans (zs_ne hmm125 (Or.inr (by decide))) (zfr_ap hfm122 hc0 rfl))
            have w133 := zu_w32_id (z := (m125 a0 7) - (m125 a0 10)) (by omega) (by omega)
            refine zw_ite (fun h134 => ?_) (fun h134 => ?_)
            · generalize hmm135 : zu_up m125 a0 8 2 = m135
              have hIm135 := zi_up hmm135 hIm125 hc0 zb_28_8 (by omega) (by omega)
              have hFm135 := zfr_up hmm135 hFm125 hc0 rfl
              have hRNSm135 := zR_NS_fr (zdis_fr (zfr_up hmm135 (zfr_rf [(28, 9)] _) hc0 rfl) rfl) hRNSm125
              have hRWDm135 := zR_WD_fr (zdis_fr (zfr_up hmm135 (zfr_rf [(28, 9)] _) hc0 rfl) rfl) hRWDm125
              have r136 : 0 ≤ (m135 a0 8) ∧ (m135 a0 8) ≤ 6 := zi_rd hIm135 hc0 zb_28_8
              have e137 : (m135 a0 8) = 2 := (zs_eq hmm135)
              refine zw_ite (fun h138 => ?_) (fun h138 => ?_)
              · exfalso; omega
              · have r139 : 0 ≤ (m135 a0 10) ∧ (m135 a0 10) ≤ 700 := zi_rd hIm135 hc0 zb_28_10
                have e140 : (m135 a0 10) = (m125 a0 10) := (zs_ne hmm135 (Or.inr (by decide)))
                have r141 : 0 ≤ (m135 a0 7) ∧ (m135 a0 7) ≤ 700 := zi_rd hIm135 hc0 zb_28_7
                have e142 : (m135 a0 7) = (m125 a0 7) := (zs_ne hmm135 (Or.inr (by decide)))
                refine zw_bd (zw_mono (zk_91 n hIm135 hc0 ⟨by omega, by omega⟩ ⟨by omega, by omega⟩) (fun v144 m143 hqm143 => ?_))
                obtain ⟨hIm143, hfm143, hvm143⟩ := hqm143
                have hFm143 := zfr_tr hFm135 hfm143 rfl
                have hRNSm143 := zR_NS_fr (zdis_fr hfm143 rfl) hRNSm135
                have hRWDm143 := zR_WD_fr (zdis_fr hfm143 rfl) hRWDm135
                have s145 := hRNSm143 a0 hc0
                generalize hmm146 : zu_up m143 a0 9 v144 = m146
                have hIm146 := zi_up hmm146 hIm143 hc0 zb_28_9 (by omega) (by omega)
                have hFm146 := zfr_up hmm146 hFm143 hc0 rfl
                have hRNSm146 := zR_NS_fr (zdis_fr (zfr_up hmm146 (zfr_rf [(28, 10)] _) hc0 rfl) rfl) hRNSm143
                have hRWDm146 := zR_WD_fr (zdis_fr (zfr_up hmm146 (zfr_rf [(28, 10)] _) hc0 rfl) rfl) hRWDm143
                have r147 : 0 ≤ (m146 a0 8) ∧ (m146 a0 8) ≤ 6 := zi_rd hIm146 hc0 zb_28_8
                have e148 : (m146 a0 8) = (m135 a0 8) := (Eq.trans (zs_ne hmm146 (Or.inr (by decide))) (zfr_ap hfm143 hc0 rfl))
                have r149 : (-2147483648) ≤ (m146 a0 9) ∧ (m146 a0 9) ≤ 2147483647 := zi_rd hIm146 hc0 zb_28_9
                have e150 : (m146 a0 9) = v144 := (zs_eq hmm146)
                have hRTRm146 := zR_TR_of hc0 (show (m146 a0 8 = 5 → (0 ≤ m146 a0 9 ∧ m146 a0 9 ≤ 5)) ∧ (m146 a0 8 = 1 → (0 ≤ m146 a0 9 ∧ m146 a0 9 ≤ 32)) ∧ (m146 a0 8 = 3 → 0 ≤ m146 a0 9) by omega)
                have r151 : 0 ≤ (m146 a0 7) ∧ (m146 a0 7) ≤ 700 := zi_rd hIm146 hc0 zb_28_7
                have e152 : (m146 a0 7) = (m135 a0 7) := (Eq.trans (zs_ne hmm146 (Or.inr (by decide))) (zfr_ap hfm143 hc0 rfl))
                exact zw_some ⟨hIm146, hFm146, hRNSm146, hRTRm146, hRWDm146, trivial, by omega, by omega⟩
            · generalize hmm153 : zu_up m125 a0 8 6 = m153
              have hIm153 := zi_up hmm153 hIm125 hc0 zb_28_8 (by omega) (by omega)
              have hFm153 := zfr_up hmm153 hFm125 hc0 rfl
              have hRNSm153 := zR_NS_fr (zdis_fr (zfr_up hmm153 (zfr_rf [(28, 9)] _) hc0 rfl) rfl) hRNSm125
              have hRWDm153 := zR_WD_fr (zdis_fr (zfr_up hmm153 (zfr_rf [(28, 9)] _) hc0 rfl) rfl) hRWDm125
              have r154 : 0 ≤ (m153 a0 8) ∧ (m153 a0 8) ≤ 6 := zi_rd hIm153 hc0 zb_28_8
              have e155 : (m153 a0 8) = 6 := (zs_eq hmm153)
              refine zw_ite (fun h156 => ?_) (fun h156 => ?_)
              · have r157 : (-2147483648) ≤ (m153 a0 9) ∧ (m153 a0 9) ≤ 2147483647 := zi_rd hIm153 hc0 zb_28_9
                have e158 : (m153 a0 9) = (m125 a0 9) := (zs_ne hmm153 (Or.inr (by decide)))
                have hRTRm153 := zR_TR_of hc0 (show (m153 a0 8 = 5 → (0 ≤ m153 a0 9 ∧ m153 a0 9 ≤ 5)) ∧ (m153 a0 8 = 1 → (0 ≤ m153 a0 9 ∧ m153 a0 9 ≤ 32)) ∧ (m153 a0 8 = 3 → 0 ≤ m153 a0 9) by omega)
                have r159 : 0 ≤ (m153 a0 7) ∧ (m153 a0 7) ≤ 700 := zi_rd hIm153 hc0 zb_28_7
                have e160 : (m153 a0 7) = (m125 a0 7) := (zs_ne hmm153 (Or.inr (by decide)))
                exact zw_some ⟨hIm153, hFm153, hRNSm153, hRTRm153, hRWDm153, trivial, by omega, by omega⟩
              · exfalso; omega
          · generalize hmm161 : zu_up m125 a0 8 1 = m161
            have hIm161 := zi_up hmm161 hIm125 hc0 zb_28_8 (by omega) (by omega)
            have hFm161 := zfr_up hmm161 hFm125 hc0 rfl
            have hRNSm161 := zR_NS_fr (zdis_fr (zfr_up hmm161 (zfr_rf [(28, 9)] _) hc0 rfl) rfl) hRNSm125
            have hRWDm161 := zR_WD_fr (zdis_fr (zfr_up hmm161 (zfr_rf [(28, 9)] _) hc0 rfl) rfl) hRWDm125
            have r162 : 0 ≤ (m161 a0 8) ∧ (m161 a0 8) ≤ 6 := zi_rd hIm161 hc0 zb_28_8
            have e163 : (m161 a0 8) = 1 := (zs_eq hmm161)
            refine zw_ite (fun h164 => ?_) (fun h164 => ?_)
            · have r165 : (-2147483648) ≤ (m161 a0 9) ∧ (m161 a0 9) ≤ 2147483647 := zi_rd hIm161 hc0 zb_28_9
              have e166 : (m161 a0 9) = (m125 a0 9) := (zs_ne hmm161 (Or.inr (by decide)))
              have hRTRm161 := zR_TR_of hc0 (show (m161 a0 8 = 5 → (0 ≤ m161 a0 9 ∧ m161 a0 9 ≤ 5)) ∧ (m161 a0 8 = 1 → (0 ≤ m161 a0 9 ∧ m161 a0 9 ≤ 32)) ∧ (m161 a0 8 = 3 → 0 ≤ m161 a0 9) by omega)
              have r167 : 0 ≤ (m161 a0 7) ∧ (m161 a0 7) ≤ 700 := zi_rd hIm161 hc0 zb_28_7
              have e168 : (m161 a0 7) = (mh a0 7) := (Eq.trans (zs_ne hmm161 (Or.inr (by decide))) (Eq.trans (zs_ne hmm125 (Or.inr (by decide))) (zfr_ap hfm122 hc0 rfl)))
              exact zw_some ⟨hIm161, hFm161, hRNSm161, hRTRm161, hRWDm161, trivial, by omega, by omega⟩
            · exfalso; omega
        · exfalso; omega
      · have b169 : 0 ≤ (mh a0 7) ∧ (mh a0 7) < 700 := by omega
        refine zw_if b169 ?_
        have r170 : (-2147483648) ≤ (mh 191 (mh a0 7)) ∧ (mh 191 (mh a0 7)) ≤ 2147483647 := zi_rd hImh zq_191 (zb_100 _)
        refine zw_ite (fun h171 => ?_) (fun h171 => ?_)
        · refine zw_b (by omega) ?_
          refine zw_some ?_
          refine zw_ite (fun h172 => ?_) (fun h172 => ?_)
          · refine zw_bd (zw_mono (zk_86 n hImh hc0 ⟨by omega, by omega⟩ ⟨by omega, by omega⟩ hRWDmh) (fun v174 m173 hqm173 => ?_))
            obtain ⟨hIm173, hfm173, hvm173⟩ := hqm173
            have hFm173 := zfr_tr hFmh hfm173 rfl
            obtain ⟨hRWDm173, hvm173⟩ := hvm173
            have hRNSm173 := zR_NS_fr (zdis_fr hfm173 rfl) hRNSmh
            have s175 := hRNSm173 a0 hc0
            generalize hmm176 : zu_up m173 a0 9 v174 = m176
            have hIm176 := zi_up hmm176 hIm173 hc0 zb_28_9 (by omega) (by omega)
            have hFm176 := zfr_up hmm176 hFm173 hc0 rfl
            have hRNSm176 := zR_NS_fr (zdis_fr (zfr_up hmm176 (zfr_rf [(28, 10)] _) hc0 rfl) rfl) hRNSm173
            have hRWDm176 := zR_WD_fr (zdis_fr (zfr_up hmm176 (zfr_rf [(28, 10)] _) hc0 rfl) rfl) hRWDm173
            have r177 : (-2147483648) ≤ (m176 a0 9) ∧ (m176 a0 9) ≤ 2147483647 := zi_rd hIm176 hc0 zb_28_9
            have e178 : (m176 a0 9) = v174 := (zs_eq hmm176)
            refine zw_ite (fun h179 => ?_) (fun h179 => ?_)
            · have r180 : 0 ≤ (m176 a0 7) ∧ (m176 a0 7) ≤ 700 := zi_rd hIm176 hc0 zb_28_7
              have e181 : (m176 a0 7) = (mh a0 7) := (Eq.trans (zs_ne hmm176 (Or.inr (by decide))) (zfr_ap hfm173 hc0 rfl))
              have r182 : 0 ≤ (m176 a0 10) ∧ (m176 a0 10) ≤ 700 := zi_rd hIm176 hc0 zb_28_10
              have e183 : (m176 a0 10) = (mh a0 10) := (Eq.trans (zs_ne hmm176 (Or.inr (by decide))) (zfr_ap hfm173 hc0 rfl))
              have w184 := zu_w32_id (z := (m176 a0 7) - (m176 a0 10)) (by omega) (by omega)
              refine zw_ite (fun h185 => ?_) (fun h185 => ?_)
              · generalize hmm186 : zu_up m176 a0 8 2 = m186
                have hIm186 := zi_up hmm186 hIm176 hc0 zb_28_8 (by omega) (by omega)
                have hFm186 := zfr_up hmm186 hFm176 hc0 rfl
                have hRNSm186 := zR_NS_fr (zdis_fr (zfr_up hmm186 (zfr_rf [(28, 9)] _) hc0 rfl) rfl) hRNSm176
                have hRWDm186 := zR_WD_fr (zdis_fr (zfr_up hmm186 (zfr_rf [(28, 9)] _) hc0 rfl) rfl) hRWDm176
                have r187 : 0 ≤ (m186 a0 8) ∧ (m186 a0 8) ≤ 6 := zi_rd hIm186 hc0 zb_28_8
                have e188 : (m186 a0 8) = 2 := (zs_eq hmm186)
                refine zw_ite (fun h189 => ?_) (fun h189 => ?_)
                · exfalso; omega
                · have r190 : 0 ≤ (m186 a0 10) ∧ (m186 a0 10) ≤ 700 := zi_rd hIm186 hc0 zb_28_10
                  have e191 : (m186 a0 10) = (m176 a0 10) := (zs_ne hmm186 (Or.inr (by decide)))
                  have r192 : 0 ≤ (m186 a0 7) ∧ (m186 a0 7) ≤ 700 := zi_rd hIm186 hc0 zb_28_7
                  have e193 : (m186 a0 7) = (m176 a0 7) := (zs_ne hmm186 (Or.inr (by decide)))
                  refine zw_bd (zw_mono (zk_91 n hIm186 hc0 ⟨by omega, by omega⟩ ⟨by omega, by omega⟩) (fun v195 m194 hqm194 => ?_))
                  obtain ⟨hIm194, hfm194, hvm194⟩ := hqm194
                  have hFm194 := zfr_tr hFm186 hfm194 rfl
                  have hRNSm194 := zR_NS_fr (zdis_fr hfm194 rfl) hRNSm186
                  have hRWDm194 := zR_WD_fr (zdis_fr hfm194 rfl) hRWDm186
                  have s196 := hRNSm194 a0 hc0
                  generalize hmm197 : zu_up m194 a0 9 v195 = m197
                  have hIm197 := zi_up hmm197 hIm194 hc0 zb_28_9 (by omega) (by omega)
                  have hFm197 := zfr_up hmm197 hFm194 hc0 rfl
                  have hRNSm197 := zR_NS_fr (zdis_fr (zfr_up hmm197 (zfr_rf [(28, 10)] _) hc0 rfl) rfl) hRNSm194
                  have hRWDm197 := zR_WD_fr (zdis_fr (zfr_up hmm197 (zfr_rf [(28, 10)] _) hc0 rfl) rfl) hRWDm194
                  have r198 : 0 ≤ (m197 a0 8) ∧ (m197 a0 8) ≤ 6 := zi_rd hIm197 hc0 zb_28_8
                  have e199 : (m197 a0 8) = (m186 a0 8) := (Eq.trans (zs_ne hmm197 (Or.inr (by decide))) (zfr_ap hfm194 hc0 rfl))
                  have r200 : (-2147483648) ≤ (m197 a0 9) ∧ (m197 a0 9) ≤ 2147483647 := zi_rd hIm197 hc0 zb_28_9
                  have e201 : (m197 a0 9) = v195 := (zs_eq hmm197)
                  have hRTRm197 := zR_TR_of hc0 (show (m197 a0 8 = 5 → (0 ≤ m197 a0 9 ∧ m197 a0 9 ≤ 5)) ∧ (m197 a0 8 = 1 → (0 ≤ m197 a0 9 ∧ m197 a0 9 ≤ 32)) ∧ (m197 a0 8 = 3 → 0 ≤ m197 a0 9) by omega)
                  have r202 : 0 ≤ (m197 a0 7) ∧ (m197 a0 7) ≤ 700 := zi_rd hIm197 hc0 zb_28_7
                  have e203 : (m197 a0 7) = (m186 a0 7) := (Eq.trans (zs_ne hmm197 (Or.inr (by decide))) (zfr_ap hfm194 hc0 rfl))
                  exact zw_some ⟨hIm197, hFm197, hRNSm197, hRTRm197, hRWDm197, trivial, by omega, by omega⟩
              · generalize hmm204 : zu_up m176 a0 8 6 = m204
                have hIm204 := zi_up hmm204 hIm176 hc0 zb_28_8 (by omega) (by omega)
                have hFm204 := zfr_up hmm204 hFm176 hc0 rfl
                have hRNSm204 := zR_NS_fr (zdis_fr (zfr_up hmm204 (zfr_rf [(28, 9)] _) hc0 rfl) rfl) hRNSm176
                have hRWDm204 := zR_WD_fr (zdis_fr (zfr_up hmm204 (zfr_rf [(28, 9)] _) hc0 rfl) rfl) hRWDm176
                have r205 : 0 ≤ (m204 a0 8) ∧ (m204 a0 8) ≤ 6 := zi_rd hIm204 hc0 zb_28_8
                have e206 : (m204 a0 8) = 6 := (zs_eq hmm204)
                refine zw_ite (fun h207 => ?_) (fun h207 => ?_)
                · have r208 : (-2147483648) ≤ (m204 a0 9) ∧ (m204 a0 9) ≤ 2147483647 := zi_rd hIm204 hc0 zb_28_9
                  have e209 : (m204 a0 9) = (m176 a0 9) := (zs_ne hmm204 (Or.inr (by decide)))
                  have hRTRm204 := zR_TR_of hc0 (show (m204 a0 8 = 5 → (0 ≤ m204 a0 9 ∧ m204 a0 9 ≤ 5)) ∧ (m204 a0 8 = 1 → (0 ≤ m204 a0 9 ∧ m204 a0 9 ≤ 32)) ∧ (m204 a0 8 = 3 → 0 ≤ m204 a0 9) by omega)
                  have r210 : 0 ≤ (m204 a0 7) ∧ (m204 a0 7) ≤ 700 := zi_rd hIm204 hc0 zb_28_7
                  have e211 : (m204 a0 7) = (m176 a0 7) := (zs_ne hmm204 (Or.inr (by decide)))
                  exact zw_some ⟨hIm204, hFm204, hRNSm204, hRTRm204, hRWDm204, trivial, by omega, by omega⟩
                · exfalso; omega
            · generalize hmm212 : zu_up m176 a0 8 1 = m212
              have hIm212 := zi_up hmm212 hIm176 hc0 zb_28_8 (by omega) (by omega)
              have hFm212 := zfr_up hmm212 hFm176 hc0 rfl
              have hRNSm212 := zR_NS_fr (zdis_fr (zfr_up hmm212 (zfr_rf [(28, 9)] _) hc0 rfl) rfl) hRNSm176
              have hRWDm212 := zR_WD_fr (zdis_fr (zfr_up hmm212 (zfr_rf [(28, 9)] _) hc0 rfl) rfl) hRWDm176
              have r213 : 0 ≤ (m212 a0 8) ∧ (m212 a0 8) ≤ 6 := zi_rd hIm212 hc0 zb_28_8
              have e214 : (m212 a0 8) = 1 := (zs_eq hmm212)
              refine zw_ite (fun h215 => ?_) (fun h215 => ?_)
              · have r216 : (-2147483648) ≤ (m212 a0 9) ∧ (m212 a0 9) ≤ 2147483647 := zi_rd hIm212 hc0 zb_28_9
                have e217 : (m212 a0 9) = (m176 a0 9) := (zs_ne hmm212 (Or.inr (by decide)))
                have hRTRm212 := zR_TR_of hc0 (show (m212 a0 8 = 5 → (0 ≤ m212 a0 9 ∧ m212 a0 9 ≤ 5)) ∧ (m212 a0 8 = 1 → (0 ≤ m212 a0 9 ∧ m212 a0 9 ≤ 32)) ∧ (m212 a0 8 = 3 → 0 ≤ m212 a0 9) by omega)
                have r218 : 0 ≤ (m212 a0 7) ∧ (m212 a0 7) ≤ 700 := zi_rd hIm212 hc0 zb_28_7
                have e219 : (m212 a0 7) = (mh a0 7) := (Eq.trans (zs_ne hmm212 (Or.inr (by decide))) (Eq.trans (zs_ne hmm176 (Or.inr (by decide))) (zfr_ap hfm173 hc0 rfl)))
                exact zw_some ⟨hIm212, hFm212, hRNSm212, hRTRm212, hRWDm212, trivial, by omega, by omega⟩
              · exfalso; omega
          · exfalso; omega
        · have b220 : 0 ≤ (mh a0 7) ∧ (mh a0 7) < 700 := by omega
          refine zw_if b220 ?_
          refine zw_ite (fun h221 => ?_) (fun h221 => ?_)
          · refine zw_b (by omega) ?_
            refine zw_some ?_
            refine zw_ite (fun h222 => ?_) (fun h222 => ?_)
            · refine zw_bd (zw_mono (zk_86 n hImh hc0 ⟨by omega, by omega⟩ ⟨by omega, by omega⟩ hRWDmh) (fun v224 m223 hqm223 => ?_))
              obtain ⟨hIm223, hfm223, hvm223⟩ := hqm223
              have hFm223 := zfr_tr hFmh hfm223 rfl
              obtain ⟨hRWDm223, hvm223⟩ := hvm223
              have hRNSm223 := zR_NS_fr (zdis_fr hfm223 rfl) hRNSmh
              have s225 := hRNSm223 a0 hc0
              generalize hmm226 : zu_up m223 a0 9 v224 = m226
              have hIm226 := zi_up hmm226 hIm223 hc0 zb_28_9 (by omega) (by omega)
              have hFm226 := zfr_up hmm226 hFm223 hc0 rfl
              have hRNSm226 := zR_NS_fr (zdis_fr (zfr_up hmm226 (zfr_rf [(28, 10)] _) hc0 rfl) rfl) hRNSm223
              have hRWDm226 := zR_WD_fr (zdis_fr (zfr_up hmm226 (zfr_rf [(28, 10)] _) hc0 rfl) rfl) hRWDm223
              have r227 : (-2147483648) ≤ (m226 a0 9) ∧ (m226 a0 9) ≤ 2147483647 := zi_rd hIm226 hc0 zb_28_9
              have e228 : (m226 a0 9) = v224 := (zs_eq hmm226)
              refine zw_ite (fun h229 => ?_) (fun h229 => ?_)
              · have r230 : 0 ≤ (m226 a0 7) ∧ (m226 a0 7) ≤ 700 := zi_rd hIm226 hc0 zb_28_7
                have e231 : (m226 a0 7) = (mh a0 7) := (Eq.trans (zs_ne hmm226 (Or.inr (by decide))) (zfr_ap hfm223 hc0 rfl))
                have r232 : 0 ≤ (m226 a0 10) ∧ (m226 a0 10) ≤ 700 := zi_rd hIm226 hc0 zb_28_10
                have e233 : (m226 a0 10) = (mh a0 10) := (Eq.trans (zs_ne hmm226 (Or.inr (by decide))) (zfr_ap hfm223 hc0 rfl))
                have w234 := zu_w32_id (z := (m226 a0 7) - (m226 a0 10)) (by omega) (by omega)
                refine zw_ite (fun h235 => ?_) (fun h235 => ?_)
                · generalize hmm236 : zu_up m226 a0 8 2 = m236
                  have hIm236 := zi_up hmm236 hIm226 hc0 zb_28_8 (by omega) (by omega)
                  have hFm236 := zfr_up hmm236 hFm226 hc0 rfl
                  have hRNSm236 := zR_NS_fr (zdis_fr (zfr_up hmm236 (zfr_rf [(28, 9)] _) hc0 rfl) rfl) hRNSm226
                  have hRWDm236 := zR_WD_fr (zdis_fr (zfr_up hmm236 (zfr_rf [(28, 9)] _) hc0 rfl) rfl) hRWDm226
                  have r237 : 0 ≤ (m236 a0 8) ∧ (m236 a0 8) ≤ 6 := zi_rd hIm236 hc0 zb_28_8
                  have e238 : (m236 a0 8) = 2 := (zs_eq hmm236)
                  refine zw_ite (fun h239 => ?_) (fun h239 => ?_)
                  · exfalso; omega
                  · have r240 : 0 ≤ (m236 a0 10) ∧ (m236 a0 10) ≤ 700 := zi_rd hIm236 hc0 zb_28_10
                    have e241 : (m236 a0 10) = (m226 a0 10) := (zs_ne hmm236 (Or.inr (by decide)))
                    have r242 : 0 ≤ (m236 a0 7) ∧ (m236 a0 7) ≤ 700 := zi_rd hIm236 hc0 zb_28_7
                    have e243 : (m236 a0 7) = (m226 a0 7) := (zs_ne hmm236 (Or.inr (by decide)))
                    refine zw_bd (zw_mono (zk_91 n hIm236 hc0 ⟨by omega, by omega⟩ ⟨by omega, by omega⟩) (fun v245 m244 hqm244 => ?_))
                    obtain ⟨hIm244, hfm244, hvm244⟩ := hqm244
                    have hFm244 := zfr_tr hFm236 hfm244 rfl
                    have hRNSm244 := zR_NS_fr (zdis_fr hfm244 rfl) hRNSm236
                    have hRWDm244 := zR_WD_fr (zdis_fr hfm244 rfl) hRWDm236
                    have s246 := hRNSm244 a0 hc0
                    generalize hmm247 : zu_up m244 a0 9 v245 = m247
                    have hIm247 := zi_up hmm247 hIm244 hc0 zb_28_9 (by omega) (by omega)
                    have hFm247 := zfr_up hmm247 hFm244 hc0 rfl
                    have hRNSm247 := zR_NS_fr (zdis_fr (zfr_up hmm247 (zfr_rf [(28, 10)] _) hc0 rfl) rfl) hRNSm244
                    have hRWDm247 := zR_WD_fr (zdis_fr (zfr_up hmm247 (zfr_rf [(28, 10)] _) hc0 rfl) rfl) hRWDm244
                    have r248 : 0 ≤ (m247 a0 8) ∧ (m247 a0 8) ≤ 6 := zi_rd hIm247 hc0 zb_28_8
                    have e249 : (m247 a0 8) = (m236 a0 8) := (Eq.trans (zs_ne hmm247 (Or.inr (by decide))) (zfr_ap hfm244 hc0 rfl))
                    have r250 : (-2147483648) ≤ (m247 a0 9) ∧ (m247 a0 9) ≤ 2147483647 := zi_rd hIm247 hc0 zb_28_9
                    have e251 : (m247 a0 9) = v245 := (zs_eq hmm247)
                    have hRTRm247 := zR_TR_of hc0 (show (m247 a0 8 = 5 → (0 ≤ m247 a0 9 ∧ m247 a0 9 ≤ 5)) ∧ (m247 a0 8 = 1 → (0 ≤ m247 a0 9 ∧ m247 a0 9 ≤ 32)) ∧ (m247 a0 8 = 3 → 0 ≤ m247 a0 9) by omega)
                    have r252 : 0 ≤ (m247 a0 7) ∧ (m247 a0 7) ≤ 700 := zi_rd hIm247 hc0 zb_28_7
                    have e253 : (m247 a0 7) = (m236 a0 7) := (Eq.trans (zs_ne hmm247 (Or.inr (by decide))) (zfr_ap hfm244 hc0 rfl))
                    exact zw_some ⟨hIm247, hFm247, hRNSm247, hRTRm247, hRWDm247, trivial, by omega, by omega⟩
                · generalize hmm254 : zu_up m226 a0 8 6 = m254
                  have hIm254 := zi_up hmm254 hIm226 hc0 zb_28_8 (by omega) (by omega)
                  have hFm254 := zfr_up hmm254 hFm226 hc0 rfl
                  have hRNSm254 := zR_NS_fr (zdis_fr (zfr_up hmm254 (zfr_rf [(28, 9)] _) hc0 rfl) rfl) hRNSm226
                  have hRWDm254 := zR_WD_fr (zdis_fr (zfr_up hmm254 (zfr_rf [(28, 9)] _) hc0 rfl) rfl) hRWDm226
                  have r255 : 0 ≤ (m254 a0 8) ∧ (m254 a0 8) ≤ 6 := zi_rd hIm254 hc0 zb_28_8
                  have e256 : (m254 a0 8) = 6 := (zs_eq hmm254)
                  refine zw_ite (fun h257 => ?_) (fun h257 => ?_)
                  · have r258 : (-2147483648) ≤ (m254 a0 9) ∧ (m254 a0 9) ≤ 2147483647 := zi_rd hIm254 hc0 zb_28_9
                    have e259 : (m254 a0 9) = (m226 a0 9) := (zs_ne hmm254 (Or.inr (by decide)))
                    have hRTRm254 := zR_TR_of hc0 (show (m254 a0 8 = 5 → (0 ≤ m254 a0 9 ∧ m254 a0 9 ≤ 5)) ∧ (m254 a0 8 = 1 → (0 ≤ m254 a0 9 ∧ m254 a0 9 ≤ 32)) ∧ (m254 a0 8 = 3 → 0 ≤ m254 a0 9) by omega)
                    have r260 : 0 ≤ (m254 a0 7) ∧ (m254 a0 7) ≤ 700 := zi_rd hIm254 hc0 zb_28_7
                    have e261 : (m254 a0 7) = (m226 a0 7) := (zs_ne hmm254 (Or.inr (by decide)))
                    exact zw_some ⟨hIm254, hFm254, hRNSm254, hRTRm254, hRWDm254, trivial, by omega, by omega⟩
                  · exfalso; omega
              · generalize hmm262 : zu_up m226 a0 8 1 = m262
                have hIm262 := zi_up hmm262 hIm226 hc0 zb_28_8 (by omega) (by omega)
                have hFm262 := zfr_up hmm262 hFm226 hc0 rfl
                have hRNSm262 := zR_NS_fr (zdis_fr (zfr_up hmm262 (zfr_rf [(28, 9)] _) hc0 rfl) rfl) hRNSm226
                have hRWDm262 := zR_WD_fr (zdis_fr (zfr_up hmm262 (zfr_rf [(28, 9)] _) hc0 rfl) rfl) hRWDm226
                have r263 : 0 ≤ (m262 a0 8) ∧ (m262 a0 8) ≤ 6 := zi_rd hIm262 hc0 zb_28_8
                have e264 : (m262 a0 8) = 1 := (zs_eq hmm262)
                refine zw_ite (fun h265 => ?_) (fun h265 => ?_)
                · have r266 : (-2147483648) ≤ (m262 a0 9) ∧ (m262 a0 9) ≤ 2147483647 := zi_rd hIm262 hc0 zb_28_9
                  have e267 : (m262 a0 9) = (m226 a0 9) := (zs_ne hmm262 (Or.inr (by decide)))
                  have hRTRm262 := zR_TR_of hc0 (show (m262 a0 8 = 5 → (0 ≤ m262 a0 9 ∧ m262 a0 9 ≤ 5)) ∧ (m262 a0 8 = 1 → (0 ≤ m262 a0 9 ∧ m262 a0 9 ≤ 32)) ∧ (m262 a0 8 = 3 → 0 ≤ m262 a0 9) by omega)
                  have r268 : 0 ≤ (m262 a0 7) ∧ (m262 a0 7) ≤ 700 := zi_rd hIm262 hc0 zb_28_7
                  have e269 : (m262 a0 7) = (mh a0 7) := (Eq.trans (zs_ne hmm262 (Or.inr (by decide))) (Eq.trans (zs_ne hmm226 (Or.inr (by decide))) (zfr_ap hfm223 hc0 rfl)))
                  exact zw_some ⟨hIm262, hFm262, hRNSm262, hRTRm262, hRWDm262, trivial, by omega, by omega⟩
                · exfalso; omega
            · exfalso; omega
          · refine zw_b (by omega) ?_
            refine zw_some ?_
            refine zw_ite (fun h270 => ?_) (fun h270 => ?_)
            · exfalso; omega
            · have w271 := zu_w32_id (z := (mh a0 7) + 1) (by omega) (by omega)
              generalize hmm272 : zu_up mh a0 7 (zu_w32 ((mh a0 7) + 1)) = m272
              have hIm272 := zi_up hmm272 hImh hc0 zb_28_7 (by omega) (by omega)
              have hFm272 := zfr_up hmm272 hFmh hc0 rfl
              have hRWDm272 := zR_WD_fr (zdis_fr (zfr_up hmm272 (zfr_rf [(28, 8)] _) hc0 rfl) rfl) hRWDmh
              have r273 : 0 ≤ (m272 a0 7) ∧ (m272 a0 7) ≤ 700 := zi_rd hIm272 hc0 zb_28_7
              have e274 : (m272 a0 7) = (zu_w32 ((mh a0 7) + 1)) := (zs_eq hmm272)
              have r275 : 0 ≤ (m272 a0 6) ∧ (m272 a0 6) ≤ 700 := zi_rd hIm272 hc0 zb_28_6
              have e276 : (m272 a0 6) = (mh a0 6) := (zs_ne hmm272 (Or.inr (by decide)))
              have hRNSm272 := zR_NS_of hc0 (show m272 a0 7 ≤ m272 a0 6 by omega)
              have r277 : 0 ≤ (m272 a0 10) ∧ (m272 a0 10) ≤ 700 := zi_rd hIm272 hc0 zb_28_10
              have e278 : (m272 a0 10) = (mh a0 10) := (zs_ne hmm272 (Or.inr (by decide)))
              have hM : (700 - (m272 a0 7)) * 1 + 701 < (k : Int) := by omega
              exact ih.2.1  m272 hIm272 hFm272 ⟨by omega, by omega⟩ ⟨by omega, by omega⟩ (by omega) (by omega) hRNSm272 hRWDm272 hM
    · intro mh hImh hFmh hg0 hg1 hg2 hg3 hH0 hH1 hH2 hRNSmh hRWDmh hM
      refine zw_eq (zu_rega_at (zt_T n) (zm_89 n) (zdp_89 n) _ _ _ _ _ _ (zr_89_213 n _ _ a0 mh)) ?_
      have r279 : 0 ≤ (mh a0 7) ∧ (mh a0 7) ≤ 700 := zi_rd hImh hc0 zb_28_7
      have s280 := hRNSmh a0 hc0
      refine zw_bd (zw_eq (zu_call_at (zt_T n) (zm_88 n) (zdp_88 n) _ _ _ _ _ rfl (zr_88_0 n _ _ a0 (mh a0 7) mh)) ?_)
      refine zw_ite (fun h281 => ?_) (fun h281 => ?_)
      · refine zw_b (by omega) ?_
        refine zw_some ?_
        refine zw_ite (fun h282 => ?_) (fun h282 => ?_)
        · have hRTRmh := zR_TR_of hc0 (show (mh a0 8 = 5 → (0 ≤ mh a0 9 ∧ mh a0 9 ≤ 5)) ∧ (mh a0 8 = 1 → (0 ≤ mh a0 9 ∧ mh a0 9 ≤ 32)) ∧ (mh a0 8 = 3 → 0 ≤ mh a0 9) by omega)
          exact zw_some ⟨hImh, hFmh, hRNSmh, hRTRmh, hRWDmh, trivial, by omega, by omega⟩
        · exfalso; omega
      · have b283 : 0 ≤ (mh a0 7) ∧ (mh a0 7) < 700 := by omega
        refine zw_if b283 ?_
        have r284 : (-2147483648) ≤ (mh 191 (mh a0 7)) ∧ (mh 191 (mh a0 7)) ≤ 2147483647 := zi_rd hImh zq_191 (zb_100 _)
        refine zw_ite (fun h285 => ?_) (fun h285 => ?_)
        · refine zw_b (by omega) ?_
          refine zw_some ?_
          refine zw_ite (fun h286 => ?_) (fun h286 => ?_)
          · have hRTRmh := zR_TR_of hc0 (show (mh a0 8 = 5 → (0 ≤ mh a0 9 ∧ mh a0 9 ≤ 5)) ∧ (mh a0 8 = 1 → (0 ≤ mh a0 9 ∧ mh a0 9 ≤ 32)) ∧ (mh a0 8 = 3 → 0 ≤ mh a0 9) by omega)
            exact zw_some ⟨hImh, hFmh, hRNSmh, hRTRmh, hRWDmh, trivial, by omega, by omega⟩
          · exfalso; omega
        · have b287 : 0 ≤ (mh a0 7) ∧ (mh a0 7) < 700 := by omega
          refine zw_if b287 ?_
          refine zw_ite (fun h288 => ?_) (fun h288 => ?_)
          · refine zw_b (by omega) ?_
            refine zw_some ?_
            refine zw_ite (fun h289 => ?_) (fun h289 => ?_)
            · have hRTRmh := zR_TR_of hc0 (show (mh a0 8 = 5 → (0 ≤ mh a0 9 ∧ mh a0 9 ≤ 5)) ∧ (mh a0 8 = 1 → (0 ≤ mh a0 9 ∧ mh a0 9 ≤ 32)) ∧ (mh a0 8 = 3 → 0 ≤ mh a0 9) by omega)
              exact zw_some ⟨hImh, hFmh, hRNSmh, hRTRmh, hRWDmh, trivial, by omega, by omega⟩
            · exfalso; omega
          · refine zw_b (by omega) ?_
            refine zw_some ?_
            refine zw_ite (fun h290 => ?_) (fun h290 => ?_)
            · exfalso; omega
            · refine zw_ite (fun h291 => ?_) (fun h291 => ?_)
              · have w292 := zu_w32_id (z := 10 * (mh a0 9)) (by omega) (by omega)
                have b293 : 0 ≤ (mh a0 7) ∧ (mh a0 7) < 700 := by omega
                refine zw_if b293 ?_
                have w294 := zu_w32_id (z := (zu_w32 (10 * (mh a0 9))) + (mh 191 (mh a0 7))) (by omega) (by omega)
                have w295 := zu_w32_id (z := (zu_w32 ((zu_w32 (10 * (mh a0 9))) + (mh 191 (mh a0 7)))) - 48) (by omega) (by omega)
                generalize hmm296 : zu_up mh a0 9 (zu_w32 ((zu_w32 ((zu_w32 (10 * (mh a0 9))) + (mh 191 (mh a0 7)))) - 48)) = m296
                have hIm296 := zi_up hmm296 hImh hc0 zb_28_9 (by omega) (by omega)
                have hFm296 := zfr_up hmm296 hFmh hc0 rfl
                have hRNSm296 := zR_NS_fr (zdis_fr (zfr_up hmm296 (zfr_rf [(28, 10)] _) hc0 rfl) rfl) hRNSmh
                have hRWDm296 := zR_WD_fr (zdis_fr (zfr_up hmm296 (zfr_rf [(28, 10)] _) hc0 rfl) rfl) hRWDmh
                have r297 : 0 ≤ (m296 a0 7) ∧ (m296 a0 7) ≤ 700 := zi_rd hIm296 hc0 zb_28_7
                have e298 : (m296 a0 7) = (mh a0 7) := (zs_ne hmm296 (Or.inr (by decide)))
                have w299 := zu_w32_id (z := (m296 a0 7) + 1) (by omega) (by omega)
                generalize hmm300 : zu_up m296 a0 7 (zu_w32 ((m296 a0 7) + 1)) = m300
                have hIm300 := zi_up hmm300 hIm296 hc0 zb_28_7 (by omega) (by omega)
                have hFm300 := zfr_up hmm300 hFm296 hc0 rfl
                have hRWDm300 := zR_WD_fr (zdis_fr (zfr_up hmm300 (zfr_rf [(28, 8)] _) hc0 rfl) rfl) hRWDm296
                have r301 : 0 ≤ (m300 a0 7) ∧ (m300 a0 7) ≤ 700 := zi_rd hIm300 hc0 zb_28_7
                have e302 : (m300 a0 7) = (zu_w32 ((m296 a0 7) + 1)) := (zs_eq hmm300)
                have r303 : 0 ≤ (m300 a0 6) ∧ (m300 a0 6) ≤ 700 := zi_rd hIm300 hc0 zb_28_6
                have e304 : (m300 a0 6) = (mh a0 6) := (Eq.trans (zs_ne hmm300 (Or.inr (by decide))) (zs_ne hmm296 (Or.inr (by decide))))
                have hRNSm300 := zR_NS_of hc0 (show m300 a0 7 ≤ m300 a0 6 by omega)
                have r305 : 0 ≤ (m300 a0 10) ∧ (m300 a0 10) ≤ 700 := zi_rd hIm300 hc0 zb_28_10
                have e306 : (m300 a0 10) = (mh a0 10) := (Eq.trans (zs_ne hmm300 (Or.inr (by decide))) (zs_ne hmm296 (Or.inr (by decide))))
                have r307 : 0 ≤ (m300 a0 8) ∧ (m300 a0 8) ≤ 6 := zi_rd hIm300 hc0 zb_28_8
                have e308 : (m300 a0 8) = (mh a0 8) := (Eq.trans (zs_ne hmm300 (Or.inr (by decide))) (zs_ne hmm296 (Or.inr (by decide))))
                have r309 : (-2147483648) ≤ (m300 a0 9) ∧ (m300 a0 9) ≤ 2147483647 := zi_rd hIm300 hc0 zb_28_9
                have e310 : (m300 a0 9) = (zu_w32 ((zu_w32 ((zu_w32 (10 * (mh a0 9))) + (mh 191 (mh a0 7)))) - 48)) := (Eq.trans (zs_ne hmm300 (Or.inr (by decide))) (zs_eq hmm296))
                have hM : (700 - (m300 a0 7)) * 1 + 0 < (k : Int) := by omega
                exact ih.2.2  m300 hIm300 hFm300 ⟨by omega, by omega⟩ ⟨by omega, by omega⟩ ⟨by omega, by omega⟩ ⟨by omega, by omega⟩ (by omega) (by omega) (by omega) hRNSm300 hRWDm300 hM
              · generalize hmm311 : zu_up mh a0 9 (mh a0 9) = m311
                have hIm311 := zi_up hmm311 hImh hc0 zb_28_9 (by omega) (by omega)
                have hFm311 := zfr_up hmm311 hFmh hc0 rfl
                have hRNSm311 := zR_NS_fr (zdis_fr (zfr_up hmm311 (zfr_rf [(28, 10)] _) hc0 rfl) rfl) hRNSmh
                have hRWDm311 := zR_WD_fr (zdis_fr (zfr_up hmm311 (zfr_rf [(28, 10)] _) hc0 rfl) rfl) hRWDmh
                have r312 : 0 ≤ (m311 a0 7) ∧ (m311 a0 7) ≤ 700 := zi_rd hIm311 hc0 zb_28_7
                have e313 : (m311 a0 7) = (mh a0 7) := (zs_ne hmm311 (Or.inr (by decide)))
                have w314 := zu_w32_id (z := (m311 a0 7) + 1) (by omega) (by omega)
                generalize hmm315 : zu_up m311 a0 7 (zu_w32 ((m311 a0 7) + 1)) = m315
                have hIm315 := zi_up hmm315 hIm311 hc0 zb_28_7 (by omega) (by omega)
                have hFm315 := zfr_up hmm315 hFm311 hc0 rfl
                have hRWDm315 := zR_WD_fr (zdis_fr (zfr_up hmm315 (zfr_rf [(28, 8)] _) hc0 rfl) rfl) hRWDm311
                have r316 : 0 ≤ (m315 a0 7) ∧ (m315 a0 7) ≤ 700 := zi_rd hIm315 hc0 zb_28_7
                have e317 : (m315 a0 7) = (zu_w32 ((m311 a0 7) + 1)) := (zs_eq hmm315)
                have r318 : 0 ≤ (m315 a0 6) ∧ (m315 a0 6) ≤ 700 := zi_rd hIm315 hc0 zb_28_6
                have e319 : (m315 a0 6) = (mh a0 6) := (Eq.trans (zs_ne hmm315 (Or.inr (by decide))) (zs_ne hmm311 (Or.inr (by decide))))
                have hRNSm315 := zR_NS_of hc0 (show m315 a0 7 ≤ m315 a0 6 by omega)
                have r320 : 0 ≤ (m315 a0 10) ∧ (m315 a0 10) ≤ 700 := zi_rd hIm315 hc0 zb_28_10
                have e321 : (m315 a0 10) = (mh a0 10) := (Eq.trans (zs_ne hmm315 (Or.inr (by decide))) (zs_ne hmm311 (Or.inr (by decide))))
                have r322 : 0 ≤ (m315 a0 8) ∧ (m315 a0 8) ≤ 6 := zi_rd hIm315 hc0 zb_28_8
                have e323 : (m315 a0 8) = (mh a0 8) := (Eq.trans (zs_ne hmm315 (Or.inr (by decide))) (zs_ne hmm311 (Or.inr (by decide))))
                have r324 : (-2147483648) ≤ (m315 a0 9) ∧ (m315 a0 9) ≤ 2147483647 := zi_rd hIm315 hc0 zb_28_9
                have e325 : (m315 a0 9) = (mh a0 9) := (Eq.trans (zs_ne hmm315 (Or.inr (by decide))) (zs_eq hmm311))
                have hM : (700 - (m315 a0 7)) * 1 + 0 < (k : Int) := by omega
                exact ih.2.2  m315 hIm315 hFm315 ⟨by omega, by omega⟩ ⟨by omega, by omega⟩ ⟨by omega, by omega⟩ ⟨by omega, by omega⟩ (by omega) (by omega) (by omega) hRNSm315 hRWDm315 hM
set_option maxHeartbeats 4000000 in
theorem zk_89 (n : Nat) {a0 : Int} {m0 : zu_m} (hIm0 : zi_I m0) (hc0 : zcls a0 = 28)     (hRNSm0 : zR_NS m0) (hRWDm0 : zR_WD m0) : zw (zu_call (zt_T n) 89 [(40, a0)] m0) (fun v m => zi_I m ∧ zfr [(28, 8), (28, 9), (28, 10), (28, 11)] m0 m ∧ zR_NS m ∧ zR_TR m ∧ zR_WD m ∧ True ∧ ((m0 a0 7) ≤ (m a0 7)) ∧ ((m a0 8) = 0 ∨ (m0 a0 7) < (m a0 7))) := by
  have hFm0 : zfr [(28, 8), (28, 9), (28, 10), (28, 11)] m0 m0 := zfr_rf _ _
  have s326 := hRNSm0 a0 hc0
  show zw (zu_ex (zt_T n) 89 0 [(40, a0)] [] m0) _
  have r327 : 0 ≤ (m0 a0 7) ∧ (m0 a0 7) ≤ 700 := zi_rd hIm0 hc0 zb_28_7
  have hM : (700 - (m0 a0 7)) * 1 + 1402 < ((2103 : Nat) : Int) := by omega
  exact (zl_89 n (m0 := m0) hc0 2103).1  m0 hIm0 hFm0 (by omega) hRNSm0 hRWDm0 hM
set_option maxHeartbeats 4000000 in
theorem zk_108 (n : Nat) {a0 a1 : Int} {m0 : zu_m} (hIm0 : zi_I m0) (hc0 : zcls a0 = 28) (ha1 : (-2147483648) ≤ a1 ∧ a1 ≤ 2147483647)     : zw (zu_call (zt_T n) 108 [(40, a0), (0, a1)] m0) (fun v m => zi_I m ∧ zfr [(28, 3)] m0 m ∧ ((-1) ≤ v ∧ v ≤ 3) ∧ (0 ≤ m a0 2 ∧ m a0 2 ≤ 0)) := by
  have hFm0 : zfr [(28, 3)] m0 m0 := zfr_rf _ _
  refine zw_eq (zu_call_at (zt_T n) (zm_108 n) (zdp_108 n) _ _ _ _ _ rfl (zr_108_0 n _ _ a0 a1 m0)) ?_
  generalize hmm1 : zu_up m0 a0 2 0 = m1
  have hIm1 := zi_up hmm1 hIm0 hc0 zb_28_2 (by omega) (by omega)
  have hFm1 := zfr_up hmm1 hFm0 hc0 rfl
  have r2 : 0 ≤ (m1 a0 15) ∧ (m1 a0 15) ≤ 4 := zi_rd hIm1 hc0 zb_28_15
  refine zw_bd (zw_mono (zk_95 n hIm1 zq_200 ⟨by omega, by omega⟩ ⟨by omega, by omega⟩ ⟨by omega, by omega⟩) (fun v4 m3 hqm3 => ?_))
  obtain ⟨hIm3, hfm3, hvm3⟩ := hqm3
  have hFm3 := zfr_tr hFm1 hfm3 rfl
  have r5 : (-2147483648) ≤ (m3 a0 2) ∧ (m3 a0 2) ≤ 2147483647 := zi_rd hIm3 hc0 zb_28_2
  have e6 : (m3 a0 2) = 0 := (Eq.trans (zfr_ap hfm3 hc0 rfl) (zs_eq hmm1))
  exact zw_some ⟨hIm3, hFm3, ⟨by omega, by omega⟩, ⟨by omega, by omega⟩⟩
set_option maxHeartbeats 4000000 in
theorem zl_112 (n : Nat) {a0 a1 : Int} {m0 : zu_m} (hc0 : zcls a0 = 28)  (hxp0 : (m0 a0 46) = zbi m0 + 1) (hxp1 : (m0 a0 21) + znz m0 ≤ 64) (hxp2 : 1 ≤ a1) : ∀ k : Nat, (∀ (mh : zu_m), zi_I mh → zfr [(28, 22), (28, 46), (28, 47), (117, 0), (118, 0), (119, 0), (121, 0)] m0 mh → (0 ≤ a1 ∧ a1 ≤ 6) → ((mh a0 21) + znz mh = (m0 a0 21) + znz m0) → ((mh a0 46) - zbi mh = (m0 a0 46) - zbi m0) → ((mh a0 45) - znz mh = (m0 a0 45) - znz m0) → ((m0 a0 21) ≤ (mh a0 21)) → (zR_KN mh) → (mh a0 45) * 1 + 0 < (k : Int) → zw (zu_ex (zt_T n) 112 0 [(40, a0), (0, a1), (2, 0), (2, 0), (2, 0)] [] mh) (fun v m => zi_I m ∧ zfr [(28, 22), (28, 46), (28, 47), (117, 0), (118, 0), (119, 0), (121, 0)] m0 m ∧ zR_KN m ∧ True ∧ ((m a0 21) + znz m = (m0 a0 21) + znz m0) ∧ ((m a0 46) - zbi m = (m0 a0 46) - zbi m0) ∧ ((m a0 45) - znz m = (m0 a0 45) - znz m0) ∧ ((m0 a0 21) ≤ (m a0 21)) ∧ (a1 = 1 → ((m a0 45) = 0 ∨ m 211 (zu_w32 ((m a0 45) - 1)) < 2)))) := by
  intro k
  induction k with
  | zero => exact fun mh hImh hFmh hba1 hH0 hH1 hH2 hH3 hRKNmh hM => by exfalso; omega
  | succ k ih =>
    intro mh hImh hFmh hba1 hH0 hH1 hH2 hH3 hRKNmh hM
    refine zw_eq (zu_rega_at (zt_T n) (zm_112 n) (zdp_112 n) _ _ _ _ _ _ (zr_112_0 n _ _ a0 a1 mh)) ?_
    have r1 : 0 ≤ (mh a0 21) ∧ (mh a0 21) ≤ 64 := zi_rd hImh hc0 zb_28_21
    have r2 : 0 ≤ (mh a0 46) ∧ (mh a0 46) ≤ 96 := zi_rd hImh hc0 zb_28_46
    have r3 : 0 ≤ (mh a0 45) ∧ (mh a0 45) ≤ 96 := zi_rd hImh hc0 zb_28_45
    have g4 := zwt_bd hImh hc0
    refine zw_ite (fun h5 => ?_) (fun h5 => ?_)
    · exact zw_some ⟨hImh, hFmh, hRKNmh, trivial, by omega, by omega, by omega, by omega, by omega⟩
    · have w6 := zu_w32_id (z := (mh a0 45) - 1) (by omega) (by omega)
      have b7 : 0 ≤ (zu_w32 ((mh a0 45) - 1)) ∧ (zu_w32 ((mh a0 45) - 1)) < 96 := by omega
      refine zw_if b7 ?_
      have r8 : 0 ≤ (mh 211 (zu_w32 ((mh a0 45) - 1))) ∧ (mh 211 (zu_w32 ((mh a0 45) - 1))) ≤ 14 := zi_rd hImh zq_211 (zb_120 _)
      refine zw_bd (zw_eq (zu_call_at (zt_T n) (zm_109 n) (zdp_109 n) _ _ _ _ _ rfl (zr_109_0 n _ _ (mh 211 (zu_w32 ((mh a0 45) - 1))) mh)) ?_)
      refine zw_ite (fun h9 => ?_) (fun h9 => ?_)
      · refine zw_ite (fun h10 => ?_) (fun h10 => ?_)
        · refine zw_ite (fun h11 => ?_) (fun h11 => ?_)
          · refine zw_ite (fun h12 => ?_) (fun h12 => ?_)
            · refine zw_ite (fun h13 => ?_) (fun h13 => ?_)
              · refine zw_ite (fun h14 => ?_) (fun h14 => ?_)
                · refine zw_some ?_
                  refine zw_ite (fun h15 => ?_) (fun h15 => ?_)
                  · exact zw_some ⟨hImh, hFmh, hRKNmh, trivial, by omega, by omega, by omega, by omega, by omega⟩
                  · generalize hmm16 : zu_up mh a0 45 (zu_w32 ((mh a0 45) - 1)) = m16
                    have hIm16 := zi_up hmm16 hImh hc0 zb_28_45 (by omega) (by omega)
                    have hFm16 := zfr_up hmm16 hFmh hc0 rfl
                    have hRKNm16 := zR_KN_fr (zdis_fr (zfr_up hmm16 (zfr_rf [(28, 46)] _) hc0 rfl) rfl) hRKNmh
                    have g17 := zwt_pop hmm16 hc0 (by omega) (by omega)
                    have g18 := zwt_bd hIm16 hc0
                    have r19 : 0 ≤ (m16 a0 45) ∧ (m16 a0 45) ≤ 96 := zi_rd hIm16 hc0 zb_28_45
                    have e20 : (m16 a0 45) = (zu_w32 ((mh a0 45) - 1)) := (zs_eq hmm16)
                    have s21 : m16 211 (m16 a0 45) = mh 211 (zu_w32 ((mh a0 45) - 1)) := by rw [zs_eq hmm16]; exact zs_ne hmm16 (Or.inl (zc_ne zq_211 hc0 (by decide)))
                    have b22 : 0 ≤ (m16 a0 45) ∧ (m16 a0 45) < 96 := by omega
                    refine zw_if b22 ?_
                    refine zw_ite (fun h23 => ?_) (fun h23 => ?_)
                    · refine zw_bd (zw_eq (zu_call_at (zt_T n) (zm_111 n) (zdp_111 n) _ _ _ _ _ rfl (zr_111_0 n _ _ a0 m16)) ?_)
                      have r24 : 0 ≤ (m16 a0 46) ∧ (m16 a0 46) ≤ 96 := zi_rd hIm16 hc0 zb_28_46
                      have e25 : (m16 a0 46) = (mh a0 46) := (zs_ne hmm16 (Or.inr (by decide)))
                      have w26 := zu_w32_id (z := (m16 a0 46) - 1) (by omega) (by omega)
                      generalize hmm27 : zu_up m16 a0 46 (zu_w32 ((m16 a0 46) - 1)) = m27
                      have hIm27 := zi_up hmm27 hIm16 hc0 zb_28_46 (by omega) (by omega)
                      have hFm27 := zfr_up hmm27 hFm16 hc0 rfl
                      have g28 := zwt_fr (zdis_fr (zfr_up hmm27 (zfr_rf [(28, 47)] _) hc0 rfl) rfl)
                      have hRKNm27 := zR_KN_fr (zdis_fr (zfr_up hmm27 (zfr_rf [(28, 47)] _) hc0 rfl) rfl) hRKNm16
                      have r29 : 0 ≤ (m27 a0 46) ∧ (m27 a0 46) ≤ 96 := zi_rd hIm27 hc0 zb_28_46
                      have e30 : (m27 a0 46) = (zu_w32 ((m16 a0 46) - 1)) := (zs_eq hmm27)
                      have b31 : 0 ≤ (m27 a0 46) ∧ (m27 a0 46) < 96 := by omega
                      refine zw_if b31 ?_
                      have r32 : 0 ≤ (m27 212 (m27 a0 46)) ∧ (m27 212 (m27 a0 46)) ≤ 63 := zi_rd hIm27 zq_212 (zb_121 _)
                      refine zw_some ?_
                      refine zw_bd (zw_eq (zu_call_at (zt_T n) (zm_111 n) (zdp_111 n) _ _ _ _ _ rfl (zr_111_0 n _ _ a0 m27)) ?_)
                      have w33 := zu_w32_id (z := (m27 a0 46) - 1) (by omega) (by omega)
                      generalize hmm34 : zu_up m27 a0 46 (zu_w32 ((m27 a0 46) - 1)) = m34
                      have hIm34 := zi_up hmm34 hIm27 hc0 zb_28_46 (by omega) (by omega)
                      have hFm34 := zfr_up hmm34 hFm27 hc0 rfl
                      have g35 := zwt_fr (zdis_fr (zfr_up hmm34 (zfr_rf [(28, 47)] _) hc0 rfl) rfl)
                      have hRKNm34 := zR_KN_fr (zdis_fr (zfr_up hmm34 (zfr_rf [(28, 47)] _) hc0 rfl) rfl) hRKNm27
                      have r36 : 0 ≤ (m34 a0 46) ∧ (m34 a0 46) ≤ 96 := zi_rd hIm34 hc0 zb_28_46
                      have e37 : (m34 a0 46) = (zu_w32 ((m27 a0 46) - 1)) := (zs_eq hmm34)
                      have b38 : 0 ≤ (m34 a0 46) ∧ (m34 a0 46) < 96 := by omega
                      refine zw_if b38 ?_
                      have r39 : 0 ≤ (m34 212 (m34 a0 46)) ∧ (m34 212 (m34 a0 46)) ≤ 63 := zi_rd hIm34 zq_212 (zb_121 _)
                      refine zw_some ?_
                      have r40 : 0 ≤ (m34 a0 21) ∧ (m34 a0 21) ≤ 64 := zi_rd hIm34 hc0 zb_28_21
                      have e41 : (m34 a0 21) = (mh a0 21) := (Eq.trans (zs_ne hmm34 (Or.inr (by decide))) (Eq.trans (zs_ne hmm27 (Or.inr (by decide))) (zs_ne hmm16 (Or.inr (by decide)))))
                      refine zw_bd (zw_mono (zk_110 n hIm34 hc0 ⟨by omega, by omega⟩ ⟨by omega, by omega⟩ ⟨by omega, by omega⟩ (by omega) (by omega) (by omega) (by omega) (by omega) hRKNm34) (fun v43 m42 hqm42 => ?_))
                      obtain ⟨hIm42, hfm42, hvm42⟩ := hqm42
                      have hFm42 := zfr_tr hFm34 hfm42 rfl
                      obtain ⟨hRKNm42, hvm42⟩ := hvm42
                      have g44 := zwt_fr (zdis_fr hfm42 rfl)
                      have g45 := zwt_bd hIm42 hc0
                      have r46 : 0 ≤ (m42 a0 45) ∧ (m42 a0 45) ≤ 96 := zi_rd hIm42 hc0 zb_28_45
                      have e47 : (m42 a0 45) = (m16 a0 45) := (Eq.trans (zfr_ap hfm42 hc0 rfl) (Eq.trans (zs_ne hmm34 (Or.inr (by decide))) (zs_ne hmm27 (Or.inr (by decide)))))
                      have hM : (m42 a0 45) * 1 + 0 < (k : Int) := by omega
                      exact zw_le (zu_forget (zu_lr_same (zu_lr_same (zu_lr_drop (zu_lr_drop (zu_lr_drop zu_lr_nil)))))) (ih  m42 hIm42 hFm42 ⟨by omega, by omega⟩ (by omega) (by omega) (by omega) (by omega) hRKNm42 hM)
                    · refine zw_bd (zw_eq (zu_call_at (zt_T n) (zm_111 n) (zdp_111 n) _ _ _ _ _ rfl (zr_111_0 n _ _ a0 m16)) ?_)
                      have r48 : 0 ≤ (m16 a0 46) ∧ (m16 a0 46) ≤ 96 := zi_rd hIm16 hc0 zb_28_46
                      have e49 : (m16 a0 46) = (mh a0 46) := (zs_ne hmm16 (Or.inr (by decide)))
                      have w50 := zu_w32_id (z := (m16 a0 46) - 1) (by omega) (by omega)
                      generalize hmm51 : zu_up m16 a0 46 (zu_w32 ((m16 a0 46) - 1)) = m51
                      have hIm51 := zi_up hmm51 hIm16 hc0 zb_28_46 (by omega) (by omega)
                      have hFm51 := zfr_up hmm51 hFm16 hc0 rfl
                      have g52 := zwt_fr (zdis_fr (zfr_up hmm51 (zfr_rf [(28, 47)] _) hc0 rfl) rfl)
                      have hRKNm51 := zR_KN_fr (zdis_fr (zfr_up hmm51 (zfr_rf [(28, 47)] _) hc0 rfl) rfl) hRKNm16
                      have r53 : 0 ≤ (m51 a0 46) ∧ (m51 a0 46) ≤ 96 := zi_rd hIm51 hc0 zb_28_46
                      have e54 : (m51 a0 46) = (zu_w32 ((m16 a0 46) - 1)) := (zs_eq hmm51)
                      have b55 : 0 ≤ (m51 a0 46) ∧ (m51 a0 46) < 96 := by omega
                      refine zw_if b55 ?_
                      have r56 : 0 ≤ (m51 212 (m51 a0 46)) ∧ (m51 212 (m51 a0 46)) ≤ 63 := zi_rd hIm51 zq_212 (zb_121 _)
                      refine zw_some ?_
                      have r57 : 0 ≤ (m51 a0 21) ∧ (m51 a0 21) ≤ 64 := zi_rd hIm51 hc0 zb_28_21
                      have e58 : (m51 a0 21) = (mh a0 21) := (Eq.trans (zs_ne hmm51 (Or.inr (by decide))) (zs_ne hmm16 (Or.inr (by decide))))
                      refine zw_bd (zw_mono (zk_110 n hIm51 hc0 ⟨by omega, by omega⟩ ⟨by omega, by omega⟩ ⟨by omega, by omega⟩ (by omega) (by omega) (by omega) (by omega) (by omega) hRKNm51) (fun v60 m59 hqm59 => ?_))
                      obtain ⟨hIm59, hfm59, hvm59⟩ := hqm59
                      have hFm59 := zfr_tr hFm51 hfm59 rfl
                      obtain ⟨hRKNm59, hvm59⟩ := hvm59
                      have g61 := zwt_fr (zdis_fr hfm59 rfl)
                      have g62 := zwt_bd hIm59 hc0
                      have r63 : 0 ≤ (m59 a0 45) ∧ (m59 a0 45) ≤ 96 := zi_rd hIm59 hc0 zb_28_45
                      have e64 : (m59 a0 45) = (m16 a0 45) := (Eq.trans (zfr_ap hfm59 hc0 rfl) (zs_ne hmm51 (Or.inr (by decide))))
                      have hM : (m59 a0 45) * 1 + 0 < (k : Int) := by omega
                      exact zw_le (zu_forget (zu_lr_same (zu_lr_same (zu_lr_drop (zu_lr_drop (zu_lr_drop zu_lr_nil)))))) (ih  m59 hIm59 hFm59 ⟨by omega, by omega⟩ (by omega) (by omega) (by omega) (by omega) hRKNm59 hM)
                · refine zw_some ?_
                  refine zw_ite (fun h65 => ?_) (fun h65 => ?_)
                  · exact zw_some ⟨hImh, hFmh, hRKNmh, trivial, by omega, by omega, by omega, by omega, by omega⟩
                  · generalize hmm66 : zu_up mh a0 45 (zu_w32 ((mh a0 45) - 1)) = m66
                    have hIm66 := zi_up hmm66 hImh hc0 zb_28_45 (by omega) (by omega)
                    have hFm66 := zfr_up hmm66 hFmh hc0 rfl
                    have hRKNm66 := zR_KN_fr (zdis_fr (zfr_up hmm66 (zfr_rf [(28, 46)] _) hc0 rfl) rfl) hRKNmh
                    have g67 := zwt_pop hmm66 hc0 (by omega) (by omega)
                    have g68 := zwt_bd hIm66 hc0
                    have r69 : 0 ≤ (m66 a0 45) ∧ (m66 a0 45) ≤ 96 := zi_rd hIm66 hc0 zb_28_45
                    have e70 : (m66 a0 45) = (zu_w32 ((mh a0 45) - 1)) := (zs_eq hmm66)
                    have s71 : m66 211 (m66 a0 45) = mh 211 (zu_w32 ((mh a0 45) - 1)) := by rw [zs_eq hmm66]; exact zs_ne hmm66 (Or.inl (zc_ne zq_211 hc0 (by decide)))
                    have b72 : 0 ≤ (m66 a0 45) ∧ (m66 a0 45) < 96 := by omega
                    refine zw_if b72 ?_
                    refine zw_ite (fun h73 => ?_) (fun h73 => ?_)
                    · refine zw_bd (zw_eq (zu_call_at (zt_T n) (zm_111 n) (zdp_111 n) _ _ _ _ _ rfl (zr_111_0 n _ _ a0 m66)) ?_)
                      have r74 : 0 ≤ (m66 a0 46) ∧ (m66 a0 46) ≤ 96 := zi_rd hIm66 hc0 zb_28_46
                      have e75 : (m66 a0 46) = (mh a0 46) := (zs_ne hmm66 (Or.inr (by decide)))
                      have w76 := zu_w32_id (z := (m66 a0 46) - 1) (by omega) (by omega)
                      generalize hmm77 : zu_up m66 a0 46 (zu_w32 ((m66 a0 46) - 1)) = m77
                      have hIm77 := zi_up hmm77 hIm66 hc0 zb_28_46 (by omega) (by omega)
                      have hFm77 := zfr_up hmm77 hFm66 hc0 rfl
                      have g78 := zwt_fr (zdis_fr (zfr_up hmm77 (zfr_rf [(28, 47)] _) hc0 rfl) rfl)
                      have hRKNm77 := zR_KN_fr (zdis_fr (zfr_up hmm77 (zfr_rf [(28, 47)] _) hc0 rfl) rfl) hRKNm66
                      have r79 : 0 ≤ (m77 a0 46) ∧ (m77 a0 46) ≤ 96 := zi_rd hIm77 hc0 zb_28_46
                      have e80 : (m77 a0 46) = (zu_w32 ((m66 a0 46) - 1)) := (zs_eq hmm77)
                      have b81 : 0 ≤ (m77 a0 46) ∧ (m77 a0 46) < 96 := by omega
                      refine zw_if b81 ?_
                      have r82 : 0 ≤ (m77 212 (m77 a0 46)) ∧ (m77 212 (m77 a0 46)) ≤ 63 := zi_rd hIm77 zq_212 (zb_121 _)
                      refine zw_some ?_
                      refine zw_bd (zw_eq (zu_call_at (zt_T n) (zm_111 n) (zdp_111 n) _ _ _ _ _ rfl (zr_111_0 n _ _ a0 m77)) ?_)
                      have w83 := zu_w32_id (z := (m77 a0 46) - 1) (by omega) (by omega)
                      generalize hmm84 : zu_up m77 a0 46 (zu_w32 ((m77 a0 46) - 1)) = m84
                      have hIm84 := zi_up hmm84 hIm77 hc0 zb_28_46 (by omega) (by omega)
                      have hFm84 := zfr_up hmm84 hFm77 hc0 rfl
                      have g85 := zwt_fr (zdis_fr (zfr_up hmm84 (zfr_rf [(28, 47)] _) hc0 rfl) rfl)
                      have hRKNm84 := zR_KN_fr (zdis_fr (zfr_up hmm84 (zfr_rf [(28, 47)] _) hc0 rfl) rfl) hRKNm77
                      have r86 : 0 ≤ (m84 a0 46) ∧ (m84 a0 46) ≤ 96 := zi_rd hIm84 hc0 zb_28_46
                      have e87 : (m84 a0 46) = (zu_w32 ((m77 a0 46) - 1)) := (zs_eq hmm84)
                      have b88 : 0 ≤ (m84 a0 46) ∧ (m84 a0 46) < 96 := by omega
                      refine zw_if b88 ?_
                      have r89 : 0 ≤ (m84 212 (m84 a0 46)) ∧ (m84 212 (m84 a0 46)) ≤ 63 := zi_rd hIm84 zq_212 (zb_121 _)
                      refine zw_some ?_
                      have r90 : 0 ≤ (m84 a0 21) ∧ (m84 a0 21) ≤ 64 := zi_rd hIm84 hc0 zb_28_21
                      have e91 : (m84 a0 21) = (mh a0 21) := (Eq.trans (zs_ne hmm84 (Or.inr (by decide))) (Eq.trans (zs_ne hmm77 (Or.inr (by decide))) (zs_ne hmm66 (Or.inr (by decide)))))
                      refine zw_bd (zw_mono (zk_110 n hIm84 hc0 ⟨by omega, by omega⟩ ⟨by omega, by omega⟩ ⟨by omega, by omega⟩ (by omega) (by omega) (by omega) (by omega) (by omega) hRKNm84) (fun v93 m92 hqm92 => ?_))
                      obtain ⟨hIm92, hfm92, hvm92⟩ := hqm92
                      have hFm92 := zfr_tr hFm84 hfm92 rfl
                      obtain ⟨hRKNm92, hvm92⟩ := hvm92
                      have g94 := zwt_fr (zdis_fr hfm92 rfl)
                      have g95 := zwt_bd hIm92 hc0
                      have r96 : 0 ≤ (m92 a0 45) ∧ (m92 a0 45) ≤ 96 := zi_rd hIm92 hc0 zb_28_45
                      have e97 : (m92 a0 45) = (m66 a0 45) := (Eq.trans (zfr_ap hfm92 hc0 rfl) (Eq.trans (zs_ne hmm84 (Or.inr (by decide))) (zs_ne hmm77 (Or.inr (by decide)))))
                      have hM : (m92 a0 45) * 1 + 0 < (k : Int) := by omega
                      exact zw_le (zu_forget (zu_lr_same (zu_lr_same (zu_lr_drop (zu_lr_drop (zu_lr_drop zu_lr_nil)))))) (ih  m92 hIm92 hFm92 ⟨by omega, by omega⟩ (by omega) (by omega) (by omega) (by omega) hRKNm92 hM)
                    · exfalso; omega
              · refine zw_some ?_
                refine zw_ite (fun h98 => ?_) (fun h98 => ?_)
                · exact zw_some ⟨hImh, hFmh, hRKNmh, trivial, by omega, by omega, by omega, by omega, by omega⟩
                · generalize hmm99 : zu_up mh a0 45 (zu_w32 ((mh a0 45) - 1)) = m99
                  have hIm99 := zi_up hmm99 hImh hc0 zb_28_45 (by omega) (by omega)
                  have hFm99 := zfr_up hmm99 hFmh hc0 rfl
                  have hRKNm99 := zR_KN_fr (zdis_fr (zfr_up hmm99 (zfr_rf [(28, 46)] _) hc0 rfl) rfl) hRKNmh
                  have g100 := zwt_pop hmm99 hc0 (by omega) (by omega)
                  have g101 := zwt_bd hIm99 hc0
                  have r102 : 0 ≤ (m99 a0 45) ∧ (m99 a0 45) ≤ 96 := zi_rd hIm99 hc0 zb_28_45
                  have e103 : (m99 a0 45) = (zu_w32 ((mh a0 45) - 1)) := (zs_eq hmm99)
                  have s104 : m99 211 (m99 a0 45) = mh 211 (zu_w32 ((mh a0 45) - 1)) := by rw [zs_eq hmm99]; exact zs_ne hmm99 (Or.inl (zc_ne zq_211 hc0 (by decide)))
                  have b105 : 0 ≤ (m99 a0 45) ∧ (m99 a0 45) < 96 := by omega
                  refine zw_if b105 ?_
                  refine zw_ite (fun h106 => ?_) (fun h106 => ?_)
                  · refine zw_bd (zw_eq (zu_call_at (zt_T n) (zm_111 n) (zdp_111 n) _ _ _ _ _ rfl (zr_111_0 n _ _ a0 m99)) ?_)
                    have r107 : 0 ≤ (m99 a0 46) ∧ (m99 a0 46) ≤ 96 := zi_rd hIm99 hc0 zb_28_46
                    have e108 : (m99 a0 46) = (mh a0 46) := (zs_ne hmm99 (Or.inr (by decide)))
                    have w109 := zu_w32_id (z := (m99 a0 46) - 1) (by omega) (by omega)
                    generalize hmm110 : zu_up m99 a0 46 (zu_w32 ((m99 a0 46) - 1)) = m110
                    have hIm110 := zi_up hmm110 hIm99 hc0 zb_28_46 (by omega) (by omega)
                    have hFm110 := zfr_up hmm110 hFm99 hc0 rfl
                    have g111 := zwt_fr (zdis_fr (zfr_up hmm110 (zfr_rf [(28, 47)] _) hc0 rfl) rfl)
                    have hRKNm110 := zR_KN_fr (zdis_fr (zfr_up hmm110 (zfr_rf [(28, 47)] _) hc0 rfl) rfl) hRKNm99
                    have r112 : 0 ≤ (m110 a0 46) ∧ (m110 a0 46) ≤ 96 := zi_rd hIm110 hc0 zb_28_46
                    have e113 : (m110 a0 46) = (zu_w32 ((m99 a0 46) - 1)) := (zs_eq hmm110)
                    have b114 : 0 ≤ (m110 a0 46) ∧ (m110 a0 46) < 96 := by omega
                    refine zw_if b114 ?_
                    have r115 : 0 ≤ (m110 212 (m110 a0 46)) ∧ (m110 212 (m110 a0 46)) ≤ 63 := zi_rd hIm110 zq_212 (zb_121 _)
                    refine zw_some ?_
                    refine zw_bd (zw_eq (zu_call_at (zt_T n) (zm_111 n) (zdp_111 n) _ _ _ _ _ rfl (zr_111_0 n _ _ a0 m110)) ?_)
                    have w116 := zu_w32_id (z := (m110 a0 46) - 1) (by omega) (by omega)
                    generalize hmm117 : zu_up m110 a0 46 (zu_w32 ((m110 a0 46) - 1)) = m117
                    have hIm117 := zi_up hmm117 hIm110 hc0 zb_28_46 (by omega) (by omega)
                    have hFm117 := zfr_up hmm117 hFm110 hc0 rfl
                    have g118 := zwt_fr (zdis_fr (zfr_up hmm117 (zfr_rf [(28, 47)] _) hc0 rfl) rfl)
                    have hRKNm117 := zR_KN_fr (zdis_fr (zfr_up hmm117 (zfr_rf [(28, 47)] _) hc0 rfl) rfl) hRKNm110
                    have r119 : 0 ≤ (m117 a0 46) ∧ (m117 a0 46) ≤ 96 := zi_rd hIm117 hc0 zb_28_46
                    have e120 : (m117 a0 46) = (zu_w32 ((m110 a0 46) - 1)) := (zs_eq hmm117)
                    have b121 : 0 ≤ (m117 a0 46) ∧ (m117 a0 46) < 96 := by omega
                    refine zw_if b121 ?_
                    have r122 : 0 ≤ (m117 212 (m117 a0 46)) ∧ (m117 212 (m117 a0 46)) ≤ 63 := zi_rd hIm117 zq_212 (zb_121 _)
                    refine zw_some ?_
                    have r123 : 0 ≤ (m117 a0 21) ∧ (m117 a0 21) ≤ 64 := zi_rd hIm117 hc0 zb_28_21
                    have e124 : (m117 a0 21) = (mh a0 21) := (Eq.trans (zs_ne hmm117 (Or.inr (by decide))) (Eq.trans (zs_ne hmm110 (Or.inr (by decide))) (zs_ne hmm99 (Or.inr (by decide)))))
                    refine zw_bd (zw_mono (zk_110 n hIm117 hc0 ⟨by omega, by omega⟩ ⟨by omega, by omega⟩ ⟨by omega, by omega⟩ (by omega) (by omega) (by omega) (by omega) (by omega) hRKNm117) (fun v126 m125 hqm125 => ?_))
                    obtain ⟨hIm125, hfm125, hvm125⟩ := hqm125
                    have hFm125 := zfr_tr hFm117 hfm125 rfl
                    obtain ⟨hRKNm125, hvm125⟩ := hvm125
                    have g127 := zwt_fr (zdis_fr hfm125 rfl)
                    have g128 := zwt_bd hIm125 hc0
                    have r129 : 0 ≤ (m125 a0 45) ∧ (m125 a0 45) ≤ 96 := zi_rd hIm125 hc0 zb_28_45
                    have e130 : (m125 a0 45) = (m99 a0 45) := (Eq.trans (zfr_ap hfm125 hc0 rfl) (Eq.trans (zs_ne hmm117 (Or.inr (by decide))) (zs_ne hmm110 (Or.inr (by decide)))))
                    have hM : (m125 a0 45) * 1 + 0 < (k : Int) := by omega
                    exact zw_le (zu_forget (zu_lr_same (zu_lr_same (zu_lr_drop (zu_lr_drop (zu_lr_drop zu_lr_nil)))))) (ih  m125 hIm125 hFm125 ⟨by omega, by omega⟩ (by omega) (by omega) (by omega) (by omega) hRKNm125 hM)
                  · exfalso; omega
            · refine zw_some ?_
              refine zw_ite (fun h131 => ?_) (fun h131 => ?_)
              · exact zw_some ⟨hImh, hFmh, hRKNmh, trivial, by omega, by omega, by omega, by omega, by omega⟩
              · generalize hmm132 : zu_up mh a0 45 (zu_w32 ((mh a0 45) - 1)) = m132
                have hIm132 := zi_up hmm132 hImh hc0 zb_28_45 (by omega) (by omega)
                have hFm132 := zfr_up hmm132 hFmh hc0 rfl
                have hRKNm132 := zR_KN_fr (zdis_fr (zfr_up hmm132 (zfr_rf [(28, 46)] _) hc0 rfl) rfl) hRKNmh
                have g133 := zwt_pop hmm132 hc0 (by omega) (by omega)
                have g134 := zwt_bd hIm132 hc0
                have r135 : 0 ≤ (m132 a0 45) ∧ (m132 a0 45) ≤ 96 := zi_rd hIm132 hc0 zb_28_45
                have e136 : (m132 a0 45) = (zu_w32 ((mh a0 45) - 1)) := (zs_eq hmm132)
                have s137 : m132 211 (m132 a0 45) = mh 211 (zu_w32 ((mh a0 45) - 1)) := by rw [zs_eq hmm132]; exact zs_ne hmm132 (Or.inl (zc_ne zq_211 hc0 (by decide)))
                have b138 : 0 ≤ (m132 a0 45) ∧ (m132 a0 45) < 96 := by omega
                refine zw_if b138 ?_
                refine zw_ite (fun h139 => ?_) (fun h139 => ?_)
                · exfalso; omega
                · refine zw_bd (zw_eq (zu_call_at (zt_T n) (zm_111 n) (zdp_111 n) _ _ _ _ _ rfl (zr_111_0 n _ _ a0 m132)) ?_)
                  have r140 : 0 ≤ (m132 a0 46) ∧ (m132 a0 46) ≤ 96 := zi_rd hIm132 hc0 zb_28_46
                  have e141 : (m132 a0 46) = (mh a0 46) := (zs_ne hmm132 (Or.inr (by decide)))
                  have w142 := zu_w32_id (z := (m132 a0 46) - 1) (by omega) (by omega)
                  generalize hmm143 : zu_up m132 a0 46 (zu_w32 ((m132 a0 46) - 1)) = m143
                  have hIm143 := zi_up hmm143 hIm132 hc0 zb_28_46 (by omega) (by omega)
                  have hFm143 := zfr_up hmm143 hFm132 hc0 rfl
                  have g144 := zwt_fr (zdis_fr (zfr_up hmm143 (zfr_rf [(28, 47)] _) hc0 rfl) rfl)
                  have hRKNm143 := zR_KN_fr (zdis_fr (zfr_up hmm143 (zfr_rf [(28, 47)] _) hc0 rfl) rfl) hRKNm132
                  have r145 : 0 ≤ (m143 a0 46) ∧ (m143 a0 46) ≤ 96 := zi_rd hIm143 hc0 zb_28_46
                  have e146 : (m143 a0 46) = (zu_w32 ((m132 a0 46) - 1)) := (zs_eq hmm143)
                  have b147 : 0 ≤ (m143 a0 46) ∧ (m143 a0 46) < 96 := by omega
                  refine zw_if b147 ?_
                  have r148 : 0 ≤ (m143 212 (m143 a0 46)) ∧ (m143 212 (m143 a0 46)) ≤ 63 := zi_rd hIm143 zq_212 (zb_121 _)
                  refine zw_some ?_
                  have r149 : 0 ≤ (m143 a0 21) ∧ (m143 a0 21) ≤ 64 := zi_rd hIm143 hc0 zb_28_21
                  have e150 : (m143 a0 21) = (mh a0 21) := (Eq.trans (zs_ne hmm143 (Or.inr (by decide))) (zs_ne hmm132 (Or.inr (by decide))))
                  refine zw_bd (zw_mono (zk_110 n hIm143 hc0 ⟨by omega, by omega⟩ ⟨by omega, by omega⟩ ⟨by omega, by omega⟩ (by omega) (by omega) (by omega) (by omega) (by omega) hRKNm143) (fun v152 m151 hqm151 => ?_))
                  obtain ⟨hIm151, hfm151, hvm151⟩ := hqm151
                  have hFm151 := zfr_tr hFm143 hfm151 rfl
                  obtain ⟨hRKNm151, hvm151⟩ := hvm151
                  have g153 := zwt_fr (zdis_fr hfm151 rfl)
                  have g154 := zwt_bd hIm151 hc0
                  have r155 : 0 ≤ (m151 a0 45) ∧ (m151 a0 45) ≤ 96 := zi_rd hIm151 hc0 zb_28_45
                  have e156 : (m151 a0 45) = (m132 a0 45) := (Eq.trans (zfr_ap hfm151 hc0 rfl) (zs_ne hmm143 (Or.inr (by decide))))
                  have hM : (m151 a0 45) * 1 + 0 < (k : Int) := by omega
                  exact zw_le (zu_forget (zu_lr_same (zu_lr_same (zu_lr_drop (zu_lr_drop (zu_lr_drop zu_lr_nil)))))) (ih  m151 hIm151 hFm151 ⟨by omega, by omega⟩ (by omega) (by omega) (by omega) (by omega) hRKNm151 hM)
          · refine zw_some ?_
            refine zw_ite (fun h157 => ?_) (fun h157 => ?_)
            · exact zw_some ⟨hImh, hFmh, hRKNmh, trivial, by omega, by omega, by omega, by omega, by omega⟩
            · generalize hmm158 : zu_up mh a0 45 (zu_w32 ((mh a0 45) - 1)) = m158
              have hIm158 := zi_up hmm158 hImh hc0 zb_28_45 (by omega) (by omega)
              have hFm158 := zfr_up hmm158 hFmh hc0 rfl
              have hRKNm158 := zR_KN_fr (zdis_fr (zfr_up hmm158 (zfr_rf [(28, 46)] _) hc0 rfl) rfl) hRKNmh
              have g159 := zwt_pop hmm158 hc0 (by omega) (by omega)
              have g160 := zwt_bd hIm158 hc0
              have r161 : 0 ≤ (m158 a0 45) ∧ (m158 a0 45) ≤ 96 := zi_rd hIm158 hc0 zb_28_45
              have e162 : (m158 a0 45) = (zu_w32 ((mh a0 45) - 1)) := (zs_eq hmm158)
              have s163 : m158 211 (m158 a0 45) = mh 211 (zu_w32 ((mh a0 45) - 1)) := by rw [zs_eq hmm158]; exact zs_ne hmm158 (Or.inl (zc_ne zq_211 hc0 (by decide)))
              have b164 : 0 ≤ (m158 a0 45) ∧ (m158 a0 45) < 96 := by omega
              refine zw_if b164 ?_
              refine zw_ite (fun h165 => ?_) (fun h165 => ?_)
              · refine zw_bd (zw_eq (zu_call_at (zt_T n) (zm_111 n) (zdp_111 n) _ _ _ _ _ rfl (zr_111_0 n _ _ a0 m158)) ?_)
                have r166 : 0 ≤ (m158 a0 46) ∧ (m158 a0 46) ≤ 96 := zi_rd hIm158 hc0 zb_28_46
                have e167 : (m158 a0 46) = (mh a0 46) := (zs_ne hmm158 (Or.inr (by decide)))
                have w168 := zu_w32_id (z := (m158 a0 46) - 1) (by omega) (by omega)
                generalize hmm169 : zu_up m158 a0 46 (zu_w32 ((m158 a0 46) - 1)) = m169
                have hIm169 := zi_up hmm169 hIm158 hc0 zb_28_46 (by omega) (by omega)
                have hFm169 := zfr_up hmm169 hFm158 hc0 rfl
                have g170 := zwt_fr (zdis_fr (zfr_up hmm169 (zfr_rf [(28, 47)] _) hc0 rfl) rfl)
                have hRKNm169 := zR_KN_fr (zdis_fr (zfr_up hmm169 (zfr_rf [(28, 47)] _) hc0 rfl) rfl) hRKNm158
                have r171 : 0 ≤ (m169 a0 46) ∧ (m169 a0 46) ≤ 96 := zi_rd hIm169 hc0 zb_28_46
                have e172 : (m169 a0 46) = (zu_w32 ((m158 a0 46) - 1)) := (zs_eq hmm169)
                have b173 : 0 ≤ (m169 a0 46) ∧ (m169 a0 46) < 96 := by omega
                refine zw_if b173 ?_
                have r174 : 0 ≤ (m169 212 (m169 a0 46)) ∧ (m169 212 (m169 a0 46)) ≤ 63 := zi_rd hIm169 zq_212 (zb_121 _)
                refine zw_some ?_
                refine zw_bd (zw_eq (zu_call_at (zt_T n) (zm_111 n) (zdp_111 n) _ _ _ _ _ rfl (zr_111_0 n _ _ a0 m169)) ?_)
                have w175 := zu_w32_id (z := (m169 a0 46) - 1) (by omega) (by omega)
                generalize hmm176 : zu_up m169 a0 46 (zu_w32 ((m169 a0 46) - 1)) = m176
                have hIm176 := zi_up hmm176 hIm169 hc0 zb_28_46 (by omega) (by omega)
                have hFm176 := zfr_up hmm176 hFm169 hc0 rfl
                have g177 := zwt_fr (zdis_fr (zfr_up hmm176 (zfr_rf [(28, 47)] _) hc0 rfl) rfl)
                have hRKNm176 := zR_KN_fr (zdis_fr (zfr_up hmm176 (zfr_rf [(28, 47)] _) hc0 rfl) rfl) hRKNm169
                have r178 : 0 ≤ (m176 a0 46) ∧ (m176 a0 46) ≤ 96 := zi_rd hIm176 hc0 zb_28_46
                have e179 : (m176 a0 46) = (zu_w32 ((m169 a0 46) - 1)) := (zs_eq hmm176)
                have b180 : 0 ≤ (m176 a0 46) ∧ (m176 a0 46) < 96 := by omega
                refine zw_if b180 ?_
                have r181 : 0 ≤ (m176 212 (m176 a0 46)) ∧ (m176 212 (m176 a0 46)) ≤ 63 := zi_rd hIm176 zq_212 (zb_121 _)
                refine zw_some ?_
                have r182 : 0 ≤ (m176 a0 21) ∧ (m176 a0 21) ≤ 64 := zi_rd hIm176 hc0 zb_28_21
                have e183 : (m176 a0 21) = (mh a0 21) := (Eq.trans (zs_ne hmm176 (Or.inr (by decide))) (Eq.trans (zs_ne hmm169 (Or.inr (by decide))) (zs_ne hmm158 (Or.inr (by decide)))))
                refine zw_bd (zw_mono (zk_110 n hIm176 hc0 ⟨by omega, by omega⟩ ⟨by omega, by omega⟩ ⟨by omega, by omega⟩ (by omega) (by omega) (by omega) (by omega) (by omega) hRKNm176) (fun v185 m184 hqm184 => ?_))
                obtain ⟨hIm184, hfm184, hvm184⟩ := hqm184
                have hFm184 := zfr_tr hFm176 hfm184 rfl
                obtain ⟨hRKNm184, hvm184⟩ := hvm184
                have g186 := zwt_fr (zdis_fr hfm184 rfl)
                have g187 := zwt_bd hIm184 hc0
                have r188 : 0 ≤ (m184 a0 45) ∧ (m184 a0 45) ≤ 96 := zi_rd hIm184 hc0 zb_28_45
                have e189 : (m184 a0 45) = (m158 a0 45) := (Eq.trans (zfr_ap hfm184 hc0 rfl) (Eq.trans (zs_ne hmm176 (Or.inr (by decide))) (zs_ne hmm169 (Or.inr (by decide)))))
                have hM : (m184 a0 45) * 1 + 0 < (k : Int) := by omega
                exact zw_le (zu_forget (zu_lr_same (zu_lr_same (zu_lr_drop (zu_lr_drop (zu_lr_drop zu_lr_nil)))))) (ih  m184 hIm184 hFm184 ⟨by omega, by omega⟩ (by omega) (by omega) (by omega) (by omega) hRKNm184 hM)
              · exfalso; omega
        · refine zw_some ?_
          refine zw_ite (fun h190 => ?_) (fun h190 => ?_)
          · exact zw_some ⟨hImh, hFmh, hRKNmh, trivial, by omega, by omega, by omega, by omega, by omega⟩
          · generalize hmm191 : zu_up mh a0 45 (zu_w32 ((mh a0 45) - 1)) = m191
            have hIm191 := zi_up hmm191 hImh hc0 zb_28_45 (by omega) (by omega)
            have hFm191 := zfr_up hmm191 hFmh hc0 rfl
            have hRKNm191 := zR_KN_fr (zdis_fr (zfr_up hmm191 (zfr_rf [(28, 46)] _) hc0 rfl) rfl) hRKNmh
            have g192 := zwt_pop hmm191 hc0 (by omega) (by omega)
            have g193 := zwt_bd hIm191 hc0
            have r194 : 0 ≤ (m191 a0 45) ∧ (m191 a0 45) ≤ 96 := zi_rd hIm191 hc0 zb_28_45
            have e195 : (m191 a0 45) = (zu_w32 ((mh a0 45) - 1)) := (zs_eq hmm191)
            have s196 : m191 211 (m191 a0 45) = mh 211 (zu_w32 ((mh a0 45) - 1)) := by rw [zs_eq hmm191]; exact zs_ne hmm191 (Or.inl (zc_ne zq_211 hc0 (by decide)))
            have b197 : 0 ≤ (m191 a0 45) ∧ (m191 a0 45) < 96 := by omega
            refine zw_if b197 ?_
            refine zw_ite (fun h198 => ?_) (fun h198 => ?_)
            · refine zw_bd (zw_eq (zu_call_at (zt_T n) (zm_111 n) (zdp_111 n) _ _ _ _ _ rfl (zr_111_0 n _ _ a0 m191)) ?_)
              have r199 : 0 ≤ (m191 a0 46) ∧ (m191 a0 46) ≤ 96 := zi_rd hIm191 hc0 zb_28_46
              have e200 : (m191 a0 46) = (mh a0 46) := (zs_ne hmm191 (Or.inr (by decide)))
              have w201 := zu_w32_id (z := (m191 a0 46) - 1) (by omega) (by omega)
              generalize hmm202 : zu_up m191 a0 46 (zu_w32 ((m191 a0 46) - 1)) = m202
              have hIm202 := zi_up hmm202 hIm191 hc0 zb_28_46 (by omega) (by omega)
              have hFm202 := zfr_up hmm202 hFm191 hc0 rfl
              have g203 := zwt_fr (zdis_fr (zfr_up hmm202 (zfr_rf [(28, 47)] _) hc0 rfl) rfl)
              have hRKNm202 := zR_KN_fr (zdis_fr (zfr_up hmm202 (zfr_rf [(28, 47)] _) hc0 rfl) rfl) hRKNm191
              have r204 : 0 ≤ (m202 a0 46) ∧ (m202 a0 46) ≤ 96 := zi_rd hIm202 hc0 zb_28_46
              have e205 : (m202 a0 46) = (zu_w32 ((m191 a0 46) - 1)) := (zs_eq hmm202)
              have b206 : 0 ≤ (m202 a0 46) ∧ (m202 a0 46) < 96 := by omega
              refine zw_if b206 ?_
              have r207 : 0 ≤ (m202 212 (m202 a0 46)) ∧ (m202 212 (m202 a0 46)) ≤ 63 := zi_rd hIm202 zq_212 (zb_121 _)
              refine zw_some ?_
              refine zw_bd (zw_eq (zu_call_at (zt_T n) (zm_111 n) (zdp_111 n) _ _ _ _ _ rfl (zr_111_0 n _ _ a0 m202)) ?_)
              have w208 := zu_w32_id (z := (m202 a0 46) - 1) (by omega) (by omega)
              generalize hmm209 : zu_up m202 a0 46 (zu_w32 ((m202 a0 46) - 1)) = m209
              have hIm209 := zi_up hmm209 hIm202 hc0 zb_28_46 (by omega) (by omega)
              have hFm209 := zfr_up hmm209 hFm202 hc0 rfl
              have g210 := zwt_fr (zdis_fr (zfr_up hmm209 (zfr_rf [(28, 47)] _) hc0 rfl) rfl)
              have hRKNm209 := zR_KN_fr (zdis_fr (zfr_up hmm209 (zfr_rf [(28, 47)] _) hc0 rfl) rfl) hRKNm202
              have r211 : 0 ≤ (m209 a0 46) ∧ (m209 a0 46) ≤ 96 := zi_rd hIm209 hc0 zb_28_46
              have e212 : (m209 a0 46) = (zu_w32 ((m202 a0 46) - 1)) := (zs_eq hmm209)
              have b213 : 0 ≤ (m209 a0 46) ∧ (m209 a0 46) < 96 := by omega
              refine zw_if b213 ?_
              have r214 : 0 ≤ (m209 212 (m209 a0 46)) ∧ (m209 212 (m209 a0 46)) ≤ 63 := zi_rd hIm209 zq_212 (zb_121 _)
              refine zw_some ?_
              have r215 : 0 ≤ (m209 a0 21) ∧ (m209 a0 21) ≤ 64 := zi_rd hIm209 hc0 zb_28_21
              have e216 : (m209 a0 21) = (mh a0 21) := (Eq.trans (zs_ne hmm209 (Or.inr (by decide))) (Eq.trans (zs_ne hmm202 (Or.inr (by decide))) (zs_ne hmm191 (Or.inr (by decide)))))
              refine zw_bd (zw_mono (zk_110 n hIm209 hc0 ⟨by omega, by omega⟩ ⟨by omega, by omega⟩ ⟨by omega, by omega⟩ (by omega) (by omega) (by omega) (by omega) (by omega) hRKNm209) (fun v218 m217 hqm217 => ?_))
              obtain ⟨hIm217, hfm217, hvm217⟩ := hqm217
              have hFm217 := zfr_tr hFm209 hfm217 rfl
              obtain ⟨hRKNm217, hvm217⟩ := hvm217
              have g219 := zwt_fr (zdis_fr hfm217 rfl)
              have g220 := zwt_bd hIm217 hc0
              have r221 : 0 ≤ (m217 a0 45) ∧ (m217 a0 45) ≤ 96 := zi_rd hIm217 hc0 zb_28_45
              have e222 : (m217 a0 45) = (m191 a0 45) := (Eq.trans (zfr_ap hfm217 hc0 rfl) (Eq.trans (zs_ne hmm209 (Or.inr (by decide))) (zs_ne hmm202 (Or.inr (by decide)))))
              have hM : (m217 a0 45) * 1 + 0 < (k : Int) := by omega
              exact zw_le (zu_forget (zu_lr_same (zu_lr_same (zu_lr_drop (zu_lr_drop (zu_lr_drop zu_lr_nil)))))) (ih  m217 hIm217 hFm217 ⟨by omega, by omega⟩ (by omega) (by omega) (by omega) (by omega) hRKNm217 hM)
            · exfalso; omega
      · refine zw_some ?_
        refine zw_ite (fun h223 => ?_) (fun h223 => ?_)
        · exfalso; omega
        · generalize hmm224 : zu_up mh a0 45 (zu_w32 ((mh a0 45) - 1)) = m224
          have hIm224 := zi_up hmm224 hImh hc0 zb_28_45 (by omega) (by omega)
          have hFm224 := zfr_up hmm224 hFmh hc0 rfl
          have hRKNm224 := zR_KN_fr (zdis_fr (zfr_up hmm224 (zfr_rf [(28, 46)] _) hc0 rfl) rfl) hRKNmh
          have g225 := zwt_pop hmm224 hc0 (by omega) (by omega)
          have g226 := zwt_bd hIm224 hc0
          have r227 : 0 ≤ (m224 a0 45) ∧ (m224 a0 45) ≤ 96 := zi_rd hIm224 hc0 zb_28_45
          have e228 : (m224 a0 45) = (zu_w32 ((mh a0 45) - 1)) := (zs_eq hmm224)
          have s229 : m224 211 (m224 a0 45) = mh 211 (zu_w32 ((mh a0 45) - 1)) := by rw [zs_eq hmm224]; exact zs_ne hmm224 (Or.inl (zc_ne zq_211 hc0 (by decide)))
          have b230 : 0 ≤ (m224 a0 45) ∧ (m224 a0 45) < 96 := by omega
          refine zw_if b230 ?_
          refine zw_ite (fun h231 => ?_) (fun h231 => ?_)
          · refine zw_bd (zw_eq (zu_call_at (zt_T n) (zm_111 n) (zdp_111 n) _ _ _ _ _ rfl (zr_111_0 n _ _ a0 m224)) ?_)
            have r232 : 0 ≤ (m224 a0 46) ∧ (m224 a0 46) ≤ 96 := zi_rd hIm224 hc0 zb_28_46
            have e233 : (m224 a0 46) = (mh a0 46) := (zs_ne hmm224 (Or.inr (by decide)))
            have w234 := zu_w32_id (z := (m224 a0 46) - 1) (by omega) (by omega)
            generalize hmm235 : zu_up m224 a0 46 (zu_w32 ((m224 a0 46) - 1)) = m235
            have hIm235 := zi_up hmm235 hIm224 hc0 zb_28_46 (by omega) (by omega)
            have hFm235 := zfr_up hmm235 hFm224 hc0 rfl
            have g236 := zwt_fr (zdis_fr (zfr_up hmm235 (zfr_rf [(28, 47)] _) hc0 rfl) rfl)
            have hRKNm235 := zR_KN_fr (zdis_fr (zfr_up hmm235 (zfr_rf [(28, 47)] _) hc0 rfl) rfl) hRKNm224
            have r237 : 0 ≤ (m235 a0 46) ∧ (m235 a0 46) ≤ 96 := zi_rd hIm235 hc0 zb_28_46
            have e238 : (m235 a0 46) = (zu_w32 ((m224 a0 46) - 1)) := (zs_eq hmm235)
            have b239 : 0 ≤ (m235 a0 46) ∧ (m235 a0 46) < 96 := by omega
            refine zw_if b239 ?_
            have r240 : 0 ≤ (m235 212 (m235 a0 46)) ∧ (m235 212 (m235 a0 46)) ≤ 63 := zi_rd hIm235 zq_212 (zb_121 _)
            refine zw_some ?_
            refine zw_bd (zw_eq (zu_call_at (zt_T n) (zm_111 n) (zdp_111 n) _ _ _ _ _ rfl (zr_111_0 n _ _ a0 m235)) ?_)
            have w241 := zu_w32_id (z := (m235 a0 46) - 1) (by omega) (by omega)
            generalize hmm242 : zu_up m235 a0 46 (zu_w32 ((m235 a0 46) - 1)) = m242
            have hIm242 := zi_up hmm242 hIm235 hc0 zb_28_46 (by omega) (by omega)
            have hFm242 := zfr_up hmm242 hFm235 hc0 rfl
            have g243 := zwt_fr (zdis_fr (zfr_up hmm242 (zfr_rf [(28, 47)] _) hc0 rfl) rfl)
            have hRKNm242 := zR_KN_fr (zdis_fr (zfr_up hmm242 (zfr_rf [(28, 47)] _) hc0 rfl) rfl) hRKNm235
            have r244 : 0 ≤ (m242 a0 46) ∧ (m242 a0 46) ≤ 96 := zi_rd hIm242 hc0 zb_28_46
            have e245 : (m242 a0 46) = (zu_w32 ((m235 a0 46) - 1)) := (zs_eq hmm242)
            have b246 : 0 ≤ (m242 a0 46) ∧ (m242 a0 46) < 96 := by omega
            refine zw_if b246 ?_
            have r247 : 0 ≤ (m242 212 (m242 a0 46)) ∧ (m242 212 (m242 a0 46)) ≤ 63 := zi_rd hIm242 zq_212 (zb_121 _)
            refine zw_some ?_
            have r248 : 0 ≤ (m242 a0 21) ∧ (m242 a0 21) ≤ 64 := zi_rd hIm242 hc0 zb_28_21
            have e249 : (m242 a0 21) = (mh a0 21) := (Eq.trans (zs_ne hmm242 (Or.inr (by decide))) (Eq.trans (zs_ne hmm235 (Or.inr (by decide))) (zs_ne hmm224 (Or.inr (by decide)))))
            refine zw_bd (zw_mono (zk_110 n hIm242 hc0 ⟨by omega, by omega⟩ ⟨by omega, by omega⟩ ⟨by omega, by omega⟩ (by omega) (by omega) (by omega) (by omega) (by omega) hRKNm242) (fun v251 m250 hqm250 => ?_))
            obtain ⟨hIm250, hfm250, hvm250⟩ := hqm250
            have hFm250 := zfr_tr hFm242 hfm250 rfl
            obtain ⟨hRKNm250, hvm250⟩ := hvm250
            have g252 := zwt_fr (zdis_fr hfm250 rfl)
            have g253 := zwt_bd hIm250 hc0
            have r254 : 0 ≤ (m250 a0 45) ∧ (m250 a0 45) ≤ 96 := zi_rd hIm250 hc0 zb_28_45
            have e255 : (m250 a0 45) = (m224 a0 45) := (Eq.trans (zfr_ap hfm250 hc0 rfl) (Eq.trans (zs_ne hmm242 (Or.inr (by decide))) (zs_ne hmm235 (Or.inr (by decide)))))
            have hM : (m250 a0 45) * 1 + 0 < (k : Int) := by omega
            exact zw_le (zu_forget (zu_lr_same (zu_lr_same (zu_lr_drop (zu_lr_drop (zu_lr_drop zu_lr_nil)))))) (ih  m250 hIm250 hFm250 ⟨by omega, by omega⟩ (by omega) (by omega) (by omega) (by omega) hRKNm250 hM)
          · exfalso; omega
set_option maxHeartbeats 4000000 in
theorem zk_112 (n : Nat) {a0 a1 : Int} {m0 : zu_m} (hIm0 : zi_I m0) (hc0 : zcls a0 = 28) (ha1 : 0 ≤ a1 ∧ a1 ≤ 6)   (hxp0 : (m0 a0 46) = zbi m0 + 1) (hxp1 : (m0 a0 21) + znz m0 ≤ 64) (hxp2 : 1 ≤ a1) (hRKNm0 : zR_KN m0) : zw (zu_call (zt_T n) 112 [(40, a0), (0, a1)] m0) (fun v m => zi_I m ∧ zfr [(28, 22), (28, 46), (28, 47), (117, 0), (118, 0), (119, 0), (121, 0)] m0 m ∧ zR_KN m ∧ True ∧ ((m a0 21) + znz m = (m0 a0 21) + znz m0) ∧ ((m a0 46) - zbi m = (m0 a0 46) - zbi m0) ∧ ((m a0 45) - znz m = (m0 a0 45) - znz m0) ∧ ((m0 a0 21) ≤ (m a0 21)) ∧ (a1 = 1 → ((m a0 45) = 0 ∨ m 211 (zu_w32 ((m a0 45) - 1)) < 2))) := by
  have hFm0 : zfr [(28, 22), (28, 46), (28, 47), (117, 0), (118, 0), (119, 0), (121, 0)] m0 m0 := zfr_rf _ _
  have r256 : 0 ≤ (m0 a0 46) ∧ (m0 a0 46) ≤ 96 := zi_rd hIm0 hc0 zb_28_46
  have r257 : 0 ≤ (m0 a0 21) ∧ (m0 a0 21) ≤ 64 := zi_rd hIm0 hc0 zb_28_21
  have g258 := zwt_bd hIm0 hc0
  show zw (zu_ex (zt_T n) 112 0 [(40, a0), (0, a1), (2, 0), (2, 0), (2, 0)] [] m0) _
  have r259 : 0 ≤ (m0 a0 45) ∧ (m0 a0 45) ≤ 96 := zi_rd hIm0 hc0 zb_28_45
  have hM : (m0 a0 45) * 1 + 0 < ((97 : Nat) : Int) := by omega
  exact (zl_112 n (m0 := m0) hc0 hxp0 hxp1 hxp2 97)  m0 hIm0 hFm0 ⟨by omega, by omega⟩ (by omega) (by omega) (by omega) (by omega) hRKNm0 hM
set_option maxHeartbeats 4000000 in
theorem zk_122 (n : Nat) {a0 a1 : Int} {m0 : zu_m} (hIm0 : zi_I m0) (hc0 : zcls a0 = 28) (ha1 : 0 ≤ a1 ∧ a1 ≤ 63)    (hRKNm0 : zR_KN m0) : zw (zu_call (zt_T n) 122 [(40, a0), (0, a1)] m0) (fun v m => zi_I m ∧ zfr [(28, 54)] m0 m ∧ zR_KN m ∧ ((-9223372036854775808) ≤ v ∧ v ≤ 9223372036854775807)) := by
  have hFm0 : zfr [(28, 54)] m0 m0 := zfr_rf _ _
  refine zw_eq (zu_call_at (zt_T n) (zm_122 n) (zdp_122 n) _ _ _ _ _ rfl (zr_122_0 n _ _ a0 a1 m0)) ?_
  have b1 : 0 ≤ a1 ∧ a1 < 128 := by omega
  refine zw_if b1 ?_
  have r2 : 0 ≤ (m0 208 a1) ∧ (m0 208 a1) ≤ 14 := zi_rd hIm0 zq_208 (zb_117 _)
  refine zw_ite (fun h3 => ?_) (fun h3 => ?_)
  · have b4 : 0 ≤ a1 ∧ a1 < 128 := by omega
    refine zw_if b4 ?_
    refine zw_ite (fun h5 => ?_) (fun h5 => ?_)
    · have b6 : 0 ≤ a1 ∧ a1 < 128 := by omega
      refine zw_if b6 ?_
      have r7 : 0 ≤ (m0 209 a1) ∧ (m0 209 a1) ≤ 9999 := zi_rd hIm0 zq_209 (zb_118 _)
      have s8 := hRKNm0 a1 (by omega) (by omega)
      have b9 : 0 ≤ (m0 209 a1) ∧ (m0 209 a1) < 64 := by omega
      refine zw_if b9 ?_
      have r10 : (-9223372036854775808) ≤ (m0 214 (m0 209 a1)) ∧ (m0 214 (m0 209 a1)) ≤ 9223372036854775807 := zi_rd hIm0 zq_214 (zb_123 _)
      have b11 : 0 ≤ a1 ∧ a1 < 128 := by omega
      refine zw_if b11 ?_
      refine zw_ite (fun h12 => ?_) (fun h12 => ?_)
      · have b13 : 0 ≤ a1 ∧ a1 < 128 := by omega
        refine zw_if b13 ?_
        have r14 : (-1) ≤ (m0 210 a1) ∧ (m0 210 a1) ≤ 63 := zi_rd hIm0 zq_210 (zb_119 _)
        have s15 := hRKNm0 a1 (by omega) (by omega)
        have b16 : 0 ≤ (m0 210 a1) ∧ (m0 210 a1) < 64 := by omega
        refine zw_if b16 ?_
        have r17 : (-9223372036854775808) ≤ (m0 214 (m0 210 a1)) ∧ (m0 214 (m0 210 a1)) ≤ 9223372036854775807 := zi_rd hIm0 zq_214 (zb_123 _)
        have b18 : 0 ≤ a1 ∧ a1 < 128 := by omega
        refine zw_if b18 ?_
        refine zw_ite (fun h19 => ?_) (fun h19 => ?_)
        · have c20 := zu_lcmp_sp (m0 214 (m0 209 a1)) 0
          refine zw_ite (fun h21 => ?_) (fun h21 => ?_)
          · exact zw_some ⟨hIm0, hFm0, hRKNm0, ⟨by omega, by omega⟩⟩
          · have c22 := zu_lcmp_sp (m0 214 (m0 210 a1)) 0
            refine zw_ite (fun h23 => ?_) (fun h23 => ?_)
            · exact zw_some ⟨hIm0, hFm0, hRKNm0, ⟨by omega, by omega⟩⟩
            · exact zw_some ⟨hIm0, hFm0, hRKNm0, ⟨by omega, by omega⟩⟩
        · refine zw_ite (fun h24 => ?_) (fun h24 => ?_)
          · have c25 := zu_lcmp_sp (m0 214 (m0 209 a1)) 0
            refine zw_ite (fun h26 => ?_) (fun h26 => ?_)
            · exact zw_some ⟨hIm0, hFm0, hRKNm0, ⟨by omega, by omega⟩⟩
            · have c27 := zu_lcmp_sp (m0 214 (m0 210 a1)) 0
              refine zw_ite (fun h28 => ?_) (fun h28 => ?_)
              · exact zw_some ⟨hIm0, hFm0, hRKNm0, ⟨by omega, by omega⟩⟩
              · exact zw_some ⟨hIm0, hFm0, hRKNm0, ⟨by omega, by omega⟩⟩
          · refine zw_ite (fun h29 => ?_) (fun h29 => ?_)
            · have b30 : 0 ≤ a1 ∧ a1 < 128 := by omega
              refine zw_if b30 ?_
              refine zw_bd (zw_mono (zk_120 n hIm0 ⟨by omega, by omega⟩ ⟨by omega, by omega⟩ ⟨by omega, by omega⟩) (fun v32 m31 hqm31 => ?_))
              obtain ⟨hIm31, hfm31, hvm31⟩ := hqm31
              have hFm31 := zfr_tr hFm0 hfm31 rfl
              have hRKNm31 := zR_KN_fr (zdis_fr hfm31 rfl) hRKNm0
              refine zw_ite (fun h33 => ?_) (fun h33 => ?_)
              · exact zw_some ⟨hIm31, hFm31, hRKNm31, ⟨by omega, by omega⟩⟩
              · exact zw_some ⟨hIm31, hFm31, hRKNm31, ⟨by omega, by omega⟩⟩
            · refine zw_ite (fun h34 => ?_) (fun h34 => ?_)
              · have b35 : 0 ≤ a1 ∧ a1 < 128 := by omega
                refine zw_if b35 ?_
                refine zw_bd (zw_mono (zk_120 n hIm0 ⟨by omega, by omega⟩ ⟨by omega, by omega⟩ ⟨by omega, by omega⟩) (fun v37 m36 hqm36 => ?_))
                obtain ⟨hIm36, hfm36, hvm36⟩ := hqm36
                have hFm36 := zfr_tr hFm0 hfm36 rfl
                have hRKNm36 := zR_KN_fr (zdis_fr hfm36 rfl) hRKNm0
                refine zw_ite (fun h38 => ?_) (fun h38 => ?_)
                · exact zw_some ⟨hIm36, hFm36, hRKNm36, ⟨by omega, by omega⟩⟩
                · exact zw_some ⟨hIm36, hFm36, hRKNm36, ⟨by omega, by omega⟩⟩
              · refine zw_ite (fun h39 => ?_) (fun h39 => ?_)
                · have b40 : 0 ≤ a1 ∧ a1 < 128 := by omega
                  refine zw_if b40 ?_
                  refine zw_bd (zw_mono (zk_120 n hIm0 ⟨by omega, by omega⟩ ⟨by omega, by omega⟩ ⟨by omega, by omega⟩) (fun v42 m41 hqm41 => ?_))
                  obtain ⟨hIm41, hfm41, hvm41⟩ := hqm41
                  have hFm41 := zfr_tr hFm0 hfm41 rfl
                  have hRKNm41 := zR_KN_fr (zdis_fr hfm41 rfl) hRKNm0
                  refine zw_ite (fun h43 => ?_) (fun h43 => ?_)
                  · exact zw_some ⟨hIm41, hFm41, hRKNm41, ⟨by omega, by omega⟩⟩
                  · exact zw_some ⟨hIm41, hFm41, hRKNm41, ⟨by omega, by omega⟩⟩
                · refine zw_ite (fun h44 => ?_) (fun h44 => ?_)
                  · have b45 : 0 ≤ a1 ∧ a1 < 128 := by omega
                    refine zw_if b45 ?_
                    refine zw_bd (zw_mono (zk_120 n hIm0 ⟨by omega, by omega⟩ ⟨by omega, by omega⟩ ⟨by omega, by omega⟩) (fun v47 m46 hqm46 => ?_))
                    obtain ⟨hIm46, hfm46, hvm46⟩ := hqm46
                    have hFm46 := zfr_tr hFm0 hfm46 rfl
                    have hRKNm46 := zR_KN_fr (zdis_fr hfm46 rfl) hRKNm0
                    refine zw_ite (fun h48 => ?_) (fun h48 => ?_)
                    · exact zw_some ⟨hIm46, hFm46, hRKNm46, ⟨by omega, by omega⟩⟩
                    · exact zw_some ⟨hIm46, hFm46, hRKNm46, ⟨by omega, by omega⟩⟩
                  · refine zw_ite (fun h49 => ?_) (fun h49 => ?_)
                    · have b50 : 0 ≤ a1 ∧ a1 < 128 := by omega
                      refine zw_if b50 ?_
                      refine zw_bd (zw_mono (zk_120 n hIm0 ⟨by omega, by omega⟩ ⟨by omega, by omega⟩ ⟨by omega, by omega⟩) (fun v52 m51 hqm51 => ?_))
                      obtain ⟨hIm51, hfm51, hvm51⟩ := hqm51
                      have hFm51 := zfr_tr hFm0 hfm51 rfl
                      have hRKNm51 := zR_KN_fr (zdis_fr hfm51 rfl) hRKNm0
                      refine zw_ite (fun h53 => ?_) (fun h53 => ?_)
                      · exact zw_some ⟨hIm51, hFm51, hRKNm51, ⟨by omega, by omega⟩⟩
                      · exact zw_some ⟨hIm51, hFm51, hRKNm51, ⟨by omega, by omega⟩⟩
                    · refine zw_ite (fun h54 => ?_) (fun h54 => ?_)
                      · have b55 : 0 ≤ a1 ∧ a1 < 128 := by omega
                        refine zw_if b55 ?_
                        refine zw_bd (zw_mono (zk_120 n hIm0 ⟨by omega, by omega⟩ ⟨by omega, by omega⟩ ⟨by omega, by omega⟩) (fun v57 m56 hqm56 => ?_))
                        obtain ⟨hIm56, hfm56, hvm56⟩ := hqm56
                        have hFm56 := zfr_tr hFm0 hfm56 rfl
                        have hRKNm56 := zR_KN_fr (zdis_fr hfm56 rfl) hRKNm0
                        refine zw_ite (fun h58 => ?_) (fun h58 => ?_)
                        · exact zw_some ⟨hIm56, hFm56, hRKNm56, ⟨by omega, by omega⟩⟩
                        · exact zw_some ⟨hIm56, hFm56, hRKNm56, ⟨by omega, by omega⟩⟩
                      · refine zw_ite (fun h59 => ?_) (fun h59 => ?_)
                        · have w60 := zu_w64_rg ((m0 214 (m0 209 a1)) + (m0 214 (m0 210 a1)))
                          refine zw_bd (zw_mono (zk_119 n hIm0 hc0 ⟨by omega, by omega⟩) (fun v62 m61 hqm61 => ?_))
                          obtain ⟨hIm61, hfm61, hvm61⟩ := hqm61
                          have hFm61 := zfr_tr hFm0 hfm61 rfl
                          have hRKNm61 := zR_KN_fr (zdis_fr hfm61 rfl) hRKNm0
                          exact zw_some ⟨hIm61, hFm61, hRKNm61, ⟨by omega, by omega⟩⟩
                        · refine zw_ite (fun h63 => ?_) (fun h63 => ?_)
                          · have w64 := zu_w64_rg ((m0 214 (m0 209 a1)) - (m0 214 (m0 210 a1)))
                            refine zw_bd (zw_mono (zk_119 n hIm0 hc0 ⟨by omega, by omega⟩) (fun v66 m65 hqm65 => ?_))
                            obtain ⟨hIm65, hfm65, hvm65⟩ := hqm65
                            have hFm65 := zfr_tr hFm0 hfm65 rfl
                            have hRKNm65 := zR_KN_fr (zdis_fr hfm65 rfl) hRKNm0
                            exact zw_some ⟨hIm65, hFm65, hRKNm65, ⟨by omega, by omega⟩⟩
                          · refine zw_ite (fun h67 => ?_) (fun h67 => ?_)
                            · refine zw_bd (zw_mono (zk_121 n hIm0 hc0 ⟨by omega, by omega⟩ ⟨by omega, by omega⟩) (fun v69 m68 hqm68 => ?_))
                              obtain ⟨hIm68, hfm68, hvm68⟩ := hqm68
                              have hFm68 := zfr_tr hFm0 hfm68 rfl
                              have hRKNm68 := zR_KN_fr (zdis_fr hfm68 rfl) hRKNm0
                              exact zw_some ⟨hIm68, hFm68, hRKNm68, ⟨by omega, by omega⟩⟩
                            · refine zw_ite (fun h70 => ?_) (fun h70 => ?_)
                              · have r71 : 0 ≤ (m0 a0 53) ∧ (m0 a0 53) ≤ 1 := zi_rd hIm0 hc0 zb_28_53
                                refine zw_ite (fun h72 => ?_) (fun h72 => ?_)
                                · refine zw_b (by omega) ?_
                                  generalize hmm73 : zu_up m0 a0 53 1 = m73
                                  have hIm73 := zi_up hmm73 hIm0 hc0 zb_28_53 (by omega) (by omega)
                                  have hFm73 := zfr_up hmm73 hFm0 hc0 rfl
                                  have hRKNm73 := zR_KN_fr (zdis_fr (zfr_up hmm73 (zfr_rf [(28, 54)] _) hc0 rfl) rfl) hRKNm0
                                  have r74 : 0 ≤ (m73 a0 53) ∧ (m73 a0 53) ≤ 1 := zi_rd hIm73 hc0 zb_28_53
                                  have e75 : (m73 a0 53) = 1 := (zs_eq hmm73)
                                  refine zw_ite (fun h76 => ?_) (fun h76 => ?_)
                                  · exfalso; omega
                                  · exact zw_some ⟨hIm73, hFm73, hRKNm73, ⟨by omega, by omega⟩⟩
                                · have c77 := zu_lcmp_sp (m0 214 (m0 210 a1)) 0
                                  refine zw_ite (fun h78 => ?_) (fun h78 => ?_)
                                  · refine zw_b (by omega) ?_
                                    generalize hmm79 : zu_up m0 a0 53 0 = m79
                                    have hIm79 := zi_up hmm79 hIm0 hc0 zb_28_53 (by omega) (by omega)
                                    have hFm79 := zfr_up hmm79 hFm0 hc0 rfl
                                    have hRKNm79 := zR_KN_fr (zdis_fr (zfr_up hmm79 (zfr_rf [(28, 54)] _) hc0 rfl) rfl) hRKNm0
                                    have r80 : 0 ≤ (m79 a0 53) ∧ (m79 a0 53) ≤ 1 := zi_rd hIm79 hc0 zb_28_53
                                    have e81 : (m79 a0 53) = 0 := (zs_eq hmm79)
                                    refine zw_ite (fun h82 => ?_) (fun h82 => ?_)
                                    · refine zw_nif (by omega) ?_
                                      have w83 := zu_w64_rg (Int.tdiv (m0 214 (m0 209 a1)) (m0 214 (m0 210 a1)))
                                      exact zw_some ⟨hIm79, hFm79, hRKNm79, ⟨by omega, by omega⟩⟩
                                    · exfalso; omega
                                  · refine zw_b (by omega) ?_
                                    generalize hmm84 : zu_up m0 a0 53 1 = m84
                                    have hIm84 := zi_up hmm84 hIm0 hc0 zb_28_53 (by omega) (by omega)
                                    have hFm84 := zfr_up hmm84 hFm0 hc0 rfl
                                    have hRKNm84 := zR_KN_fr (zdis_fr (zfr_up hmm84 (zfr_rf [(28, 54)] _) hc0 rfl) rfl) hRKNm0
                                    have r85 : 0 ≤ (m84 a0 53) ∧ (m84 a0 53) ≤ 1 := zi_rd hIm84 hc0 zb_28_53
                                    have e86 : (m84 a0 53) = 1 := (zs_eq hmm84)
                                    refine zw_ite (fun h87 => ?_) (fun h87 => ?_)
                                    · exfalso; omega
                                    · exact zw_some ⟨hIm84, hFm84, hRKNm84, ⟨by omega, by omega⟩⟩
                              · exfalso; omega
      · have c88 := zu_lcmp_sp (m0 214 (m0 209 a1)) 0
        refine zw_ite (fun h89 => ?_) (fun h89 => ?_)
        · exact zw_some ⟨hIm0, hFm0, hRKNm0, ⟨by omega, by omega⟩⟩
        · exact zw_some ⟨hIm0, hFm0, hRKNm0, ⟨by omega, by omega⟩⟩
    · have b90 : 0 ≤ a1 ∧ a1 < 128 := by omega
      refine zw_if b90 ?_
      have r91 : 0 ≤ (m0 209 a1) ∧ (m0 209 a1) ≤ 9999 := zi_rd hIm0 zq_209 (zb_118 _)
      have s92 := hRKNm0 a1 (by omega) (by omega)
      have b93 : 0 ≤ (m0 209 a1) ∧ (m0 209 a1) < 7 := by omega
      refine zw_if b93 ?_
      have r94 : (-2147483648) ≤ (m0 213 (m0 209 a1)) ∧ (m0 213 (m0 209 a1)) ≤ 2147483647 := zi_rd hIm0 zq_213 (zb_122 _)
      exact zw_some ⟨hIm0, hFm0, hRKNm0, ⟨by omega, by omega⟩⟩
  · have b95 : 0 ≤ a1 ∧ a1 < 128 := by omega
    refine zw_if b95 ?_
    have r96 : 0 ≤ (m0 209 a1) ∧ (m0 209 a1) ≤ 9999 := zi_rd hIm0 zq_209 (zb_118 _)
    exact zw_some ⟨hIm0, hFm0, hRKNm0, ⟨by omega, by omega⟩⟩
set_option maxHeartbeats 4000000 in
theorem zl_126 (n : Nat) {a0 : Int} {m0 : zu_m} (hc0 : zcls a0 = 28)   : ∀ k : Nat, (∀ (x1 : Int) (mh : zu_m), zi_I mh → zfr [(28, 65), (28, 66), (28, 67), (28, 68), (28, 69), (28, 70), (124, 0), (125, 2), (126, 0), (127, 0), (129, 0), (130, 0)] m0 mh → (0 ≤ x1 ∧ x1 ≤ 18) → (zE1 mh 0) → (18 - x1) * 1 + 5 < (k : Int) → zw (zu_ex (zt_T n) 126 2 [(40, a0), (0, x1)] [] mh) (fun v m => zi_I m ∧ zfr [(28, 65), (28, 66), (28, 67), (28, 68), (28, 69), (28, 70), (124, 0), (125, 2), (126, 0), (127, 0), (129, 0), (130, 0)] m0 m ∧ zE1 m 1 ∧ zE1 m 0 ∧ True ∧ (0 ≤ m 216 1 ∧ m 216 1 ≤ 16))) ∧ (∀ (x1 : Int) (mh : zu_m), zi_I mh → zfr [(28, 65), (28, 66), (28, 67), (28, 68), (28, 69), (28, 70), (124, 0), (125, 2), (126, 0), (127, 0), (129, 0), (130, 0)] m0 mh → (0 ≤ x1 ∧ x1 ≤ 4) → (0 ≤ mh 216 1 ∧ mh 216 1 ≤ 16) → (zE1p mh 1 x1) → (zE1 mh 0) → (4 - x1) * 1 + 0 < (k : Int) → zw (zu_ex (zt_T n) 126 43 [(40, a0), (0, x1)] [] mh) (fun v m => zi_I m ∧ zfr [(28, 65), (28, 66), (28, 67), (28, 68), (28, 69), (28, 70), (124, 0), (125, 2), (126, 0), (127, 0), (129, 0), (130, 0)] m0 m ∧ zE1 m 1 ∧ zE1 m 0 ∧ True ∧ (0 ≤ m 216 1 ∧ m 216 1 ≤ 16))) := by
  intro k
  induction k with
  | zero => exact ⟨fun x1 mh hImh hFmh hbx1 hRSEmh hM => by exfalso; omega, fun x1 mh hImh hFmh hbx1 hg1 hH0 hRSEmh hM => by exfalso; omega⟩
  | succ k ih =>
    refine ⟨?_, ?_⟩
    · intro x1 mh hImh hFmh hbx1 hRSEmh hM
      refine zw_eq (zu_rega_at (zt_T n) (zm_126 n) (zdp_126 n) _ _ _ _ _ _ (zr_126_2 n _ _ a0 x1 mh)) ?_
      refine zw_ite (fun h1 => ?_) (fun h1 => ?_)
      · have b2 : 0 ≤ (0 : Int) ∧ (0 : Int) < 2 := by omega
        refine zw_if b2 ?_
        have r3 : 0 ≤ (mh 216 0) ∧ (mh 216 0) ≤ 16 := zi_rdr (m := 2) (r0 := 0) (r1 := 0) hImh zq_216 (by omega) (by decide +kernel)
        have b4 : 0 ≤ (1 : Int) ∧ (1 : Int) < 2 := by omega
        refine zw_if b4 ?_
        generalize hmm5 : zu_up mh 216 1 (mh 216 0) = m5
        have hIm5 := zi_upr (m := 2) (r0 := 1) (r1 := 1) (lo := 0) (hi := 18) hmm5 hImh zq_216 (by omega) (by decide +kernel) (by omega) (by omega)
        have hFm5 := zfr_up hmm5 hFmh zq_216 rfl
        have hRSEm5 := zR_SE_fr (zdis_fr (zfr_up hmm5 (zfr_rf [(125, 2)] _) zq_216 rfl) rfl) hRSEmh
        have r6 : 0 ≤ (m5 216 1) ∧ (m5 216 1) ≤ 18 := zi_rdr (m := 2) (r0 := 1) (r1 := 1) hIm5 zq_216 (by omega) (by decide +kernel)
        have e7 : (m5 216 1) = (mh 216 0) := (zs_eq hmm5)
        have hM : (4 - 0) * 1 + 0 < (k : Int) := by omega
        exact ih.2 0 m5 hIm5 hFm5 ⟨by omega, by omega⟩ ⟨by omega, by omega⟩ (zE1p_0 _ _) hRSEm5 hM
      · have w8 := zu_w32_id (z := 18 + x1) (by omega) (by omega)
        have b9 : 0 ≤ x1 ∧ x1 < 36 := by omega
        refine zw_if b9 ?_
        have r10 : (-3) ≤ (mh 215 x1) ∧ (mh 215 x1) ≤ 3 := zi_rd hImh zq_215 (zb_124 _)
        have b11 : 0 ≤ (zu_w32 (18 + x1)) ∧ (zu_w32 (18 + x1)) < 36 := by omega
        refine zw_if b11 ?_
        generalize hmm12 : zu_up mh 215 (zu_w32 (18 + x1)) (mh 215 x1) = m12
        have hIm12 := zi_up hmm12 hImh zq_215 (zb_124 _) (by omega) (by omega)
        have hFm12 := zfr_up hmm12 hFmh zq_215 rfl
        have hRSEm12 := zR_SE_fr (zdis_fr (zfr_up hmm12 (zfr_rf [(124, 0)] _) zq_215 rfl) rfl) hRSEmh
        have w13 := zu_w32_id (z := x1 + 1) (by omega) (by omega)
        have hM : (18 - (zu_w32 (x1 + 1))) * 1 + 5 < (k : Int) := by omega
        exact ih.1 (zu_w32 (x1 + 1)) m12 hIm12 hFm12 ⟨by omega, by omega⟩ hRSEm12 hM
    · intro x1 mh hImh hFmh hbx1 hg1 hH0 hRSEmh hM
      refine zw_eq (zu_rega_at (zt_T n) (zm_126 n) (zdp_126 n) _ _ _ _ _ _ (zr_126_43 n _ _ a0 x1 mh)) ?_
      refine zw_ite (fun h14 => ?_) (fun h14 => ?_)
      · have hRS1mh := zE1_of hH0 (by omega)
        have b15 : 0 ≤ (0 : Int) ∧ (0 : Int) < 2 := by omega
        refine zw_if b15 ?_
        have r16 : (-9223372036854775808) ≤ (mh 220 0) ∧ (mh 220 0) ≤ 9223372036854775807 := zi_rd hImh zq_220 (zb_129 _)
        have b17 : 0 ≤ (1 : Int) ∧ (1 : Int) < 2 := by omega
        refine zw_if b17 ?_
        generalize hmm18 : zu_up mh 220 1 (mh 220 0) = m18
        have hIm18 := zi_up hmm18 hImh zq_220 (zb_129 _) (by omega) (by omega)
        have hFm18 := zfr_up hmm18 hFmh zq_220 rfl
        have hRS1m18 := zR_S1_fr (zdis_fr (zfr_up hmm18 (zfr_rf [(129, 0)] _) zq_220 rfl) rfl) hRS1mh
        have hRSEm18 := zR_SE_fr (zdis_fr (zfr_up hmm18 (zfr_rf [(129, 0)] _) zq_220 rfl) rfl) hRSEmh
        have b19 : 0 ≤ (0 : Int) ∧ (0 : Int) < 2 := by omega
        refine zw_if b19 ?_
        have r20 : (-2147483648) ≤ (m18 221 0) ∧ (m18 221 0) ≤ 2147483647 := zi_rd hIm18 zq_221 (zb_130 _)
        have b21 : 0 ≤ (1 : Int) ∧ (1 : Int) < 2 := by omega
        refine zw_if b21 ?_
        generalize hmm22 : zu_up m18 221 1 (m18 221 0) = m22
        have hIm22 := zi_up hmm22 hIm18 zq_221 (zb_130 _) (by omega) (by omega)
        have hFm22 := zfr_up hmm22 hFm18 zq_221 rfl
        have hRS1m22 := zR_S1_fr (zdis_fr (zfr_up hmm22 (zfr_rf [(130, 0)] _) zq_221 rfl) rfl) hRS1m18
        have hRSEm22 := zR_SE_fr (zdis_fr (zfr_up hmm22 (zfr_rf [(130, 0)] _) zq_221 rfl) rfl) hRSEm18
        refine zw_bd (zw_mono (zk_35 n hIm22 hc0) (fun v24 m23 hqm23 => ?_))
        obtain ⟨hIm23, hfm23, hvm23⟩ := hqm23
        have hFm23 := zfr_tr hFm22 hfm23 rfl
        have hRS1m23 := zR_S1_fr (zdis_fr hfm23 rfl) hRS1m22
        have hRSEm23 := zR_SE_fr (zdis_fr hfm23 rfl) hRSEm22
        have r25 : 0 ≤ (m23 216 1) ∧ (m23 216 1) ≤ 18 := zi_rdr (m := 2) (r0 := 1) (r1 := 1) hIm23 zq_216 (by omega) (by decide +kernel)
        have e26 : (m23 216 1) = (mh 216 1) := (Eq.trans (zfr_ap hfm23 zq_216 rfl) (Eq.trans (zs_ne hmm22 (Or.inl (zc_ne zq_216 zq_221 (by decide)))) (zs_ne hmm18 (Or.inl (zc_ne zq_216 zq_220 (by decide))))))
        exact zw_some ⟨hIm23, hFm23, hRS1m23, hRSEm23, trivial, ⟨by omega, by omega⟩⟩
      · have w27 := zu_w32_id (z := 4 + x1) (by omega) (by omega)
        have b28 : 0 ≤ x1 ∧ x1 < 8 := by omega
        refine zw_if b28 ?_
        have r29 : 0 ≤ (mh 217 x1) ∧ (mh 217 x1) ≤ 47 := zi_rd hImh zq_217 (zb_126 _)
        have b30 : 0 ≤ (zu_w32 (4 + x1)) ∧ (zu_w32 (4 + x1)) < 8 := by omega
        refine zw_if b30 ?_
        generalize hmm31 : zu_up mh 217 (zu_w32 (4 + x1)) (mh 217 x1) = m31
        have hIm31 := zi_up hmm31 hImh zq_217 (zb_126 _) (by omega) (by omega)
        have hFm31 := zfr_up hmm31 hFmh zq_217 rfl
        have hcv := zE1_rdi (c := x1) (i := x1) hRSEmh (zone_190 hc0) (by omega) (by omega) (by omega)
        have hzpm31 := zE1p_s (y := x1 + 1) hmm31 (zone_190 hc0) (by omega) rfl hcv hH0
        have hRSEm31 := zE1_upx (b' := 1) (x := x1) hmm31 (zone_190 hc0) (by omega) (by omega) (by omega) hcv hRSEmh
        have b32 : 0 ≤ x1 ∧ x1 < 8 := by omega
        refine zw_if b32 ?_
        have r33 : (-2147483648) ≤ (m31 218 x1) ∧ (m31 218 x1) ≤ 2147483647 := zi_rd hIm31 zq_218 (zb_127 _)
        have b34 : 0 ≤ (zu_w32 (4 + x1)) ∧ (zu_w32 (4 + x1)) < 8 := by omega
        refine zw_if b34 ?_
        generalize hmm35 : zu_up m31 218 (zu_w32 (4 + x1)) (m31 218 x1) = m35
        have hIm35 := zi_up hmm35 hIm31 zq_218 (zb_127 _) (by omega) (by omega)
        have hFm35 := zfr_up hmm35 hFm31 zq_218 rfl
        have hRSEm35 := zR_SE_fr (zdis_fr (zfr_up hmm35 (zfr_rf [(127, 0)] _) zq_218 rfl) rfl) hRSEm31
        have w36 := zu_w32_id (z := x1 + 1) (by omega) (by omega)
        have r37 : 0 ≤ (m35 216 1) ∧ (m35 216 1) ≤ 18 := zi_rdr (m := 2) (r0 := 1) (r1 := 1) hIm35 zq_216 (by omega) (by decide +kernel)
        have e38 : (m35 216 1) = (mh 216 1) := (Eq.trans (zs_ne hmm35 (Or.inl (zc_ne zq_216 zq_218 (by decide)))) (zs_ne hmm31 (Or.inl (zc_ne zq_216 zq_217 (by decide)))))
        have hM : (4 - (zu_w32 (x1 + 1))) * 1 + 0 < (k : Int) := by omega
        exact ih.2 (zu_w32 (x1 + 1)) m35 hIm35 hFm35 ⟨by omega, by omega⟩ ⟨by omega, by omega⟩ (zE1p_mv hzpm31 (fun _ => (zs_ne hmm35 (Or.inl (zc_ne zq_217 zq_218 (by decide))))) (zs_ne hmm35 (Or.inl (zc_ne zq_190 zq_218 (by decide)))) (zs_ne hmm35 (Or.inl (zc_ne zq_190 zq_218 (by decide)))) (zs_ne hmm35 (Or.inl (zc_ne zq_190 zq_218 (by decide)))) (by omega)) hRSEm35 hM
set_option maxHeartbeats 4000000 in
theorem zk_126 (n : Nat) {a0 : Int} {m0 : zu_m} (hIm0 : zi_I m0) (hc0 : zcls a0 = 28)     (hRSEm0 : zE1 m0 0) : zw (zu_call (zt_T n) 126 [(40, a0)] m0) (fun v m => zi_I m ∧ zfr [(28, 65), (28, 66), (28, 67), (28, 68), (28, 69), (28, 70), (124, 0), (125, 2), (126, 0), (127, 0), (129, 0), (130, 0)] m0 m ∧ zE1 m 1 ∧ zE1 m 0 ∧ True ∧ (0 ≤ m 216 1 ∧ m 216 1 ≤ 16)) := by
  have hFm0 : zfr [(28, 65), (28, 66), (28, 67), (28, 68), (28, 69), (28, 70), (124, 0), (125, 2), (126, 0), (127, 0), (129, 0), (130, 0)] m0 m0 := zfr_rf _ _
  refine zw_eq (zu_call_at (zt_T n) (zm_126 n) (zdp_126 n) _ _ _ _ _ rfl (zr_126_0 n _ _ a0 m0)) ?_
  have hM : (18 - 0) * 1 + 5 < ((24 : Nat) : Int) := by omega
  exact (zl_126 n (m0 := m0) hc0 24).1 0 m0 hIm0 hFm0 ⟨by omega, by omega⟩ hRSEm0 hM

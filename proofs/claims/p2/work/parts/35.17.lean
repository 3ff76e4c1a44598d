set_option maxHeartbeats 4000000 in
theorem zk_105 (n : Nat) {a0 : Int} {m0 : zu_m} (hIm0 : zi_I m0) (hc0 : zcls a0 = 28)   (he0 : 1 ≤ m0 a0 8 ∧ m0 a0 8 ≤ 6) (hxp0 : (m0 a0 21) = (m0 a0 48)) (hRKNm0 : zR_KN m0) (hRNSm0 : zR_NS m0) (hRWDm0 : zR_WD m0) : zw (zu_call (zt_T n) 105 [(40, a0)] m0) (fun v m => zi_I m ∧ zfr [(28, 5), (28, 6), (28, 8), (28, 9), (28, 10), (28, 11), (28, 12), (28, 18), (28, 19), (28, 20), (28, 21), (28, 22), (28, 23), (28, 24), (28, 43), (28, 46), (28, 47), (28, 48), (28, 49), (28, 50), (28, 51), (102, 0), (103, 0), (104, 0), (105, 0), (106, 0), (107, 0), (108, 0), (109, 0), (110, 0), (111, 0), (112, 0), (113, 0), (114, 0), (115, 0), (116, 0), (117, 0), (118, 0), (119, 0), (120, 0), (121, 0)] m0 m ∧ zR_KN m ∧ zR_NS m ∧ zR_WD m ∧ (0 ≤ v ∧ v ≤ 1) ∧ (v = 1 → (m0 a0 7) < (m a0 7)) ∧ (v = 1 → (m a0 21) = (m a0 48))) := by
  have hFm0 : zfr [(28, 5), (28, 6), (28, 8), (28, 9), (28, 10), (28, 11), (28, 12), (28, 18), (28, 19), (28, 20), (28, 21), (28, 22), (28, 23), (28, 24), (28, 43), (28, 46), (28, 47), (28, 48), (28, 49), (28, 50), (28, 51), (102, 0), (103, 0), (104, 0), (105, 0), (106, 0), (107, 0), (108, 0), (109, 0), (110, 0), (111, 0), (112, 0), (113, 0), (114, 0), (115, 0), (116, 0), (117, 0), (118, 0), (119, 0), (120, 0), (121, 0)] m0 m0 := zfr_rf _ _
  have r1 : 0 ≤ (m0 a0 21) ∧ (m0 a0 21) ≤ 64 := zi_rd hIm0 hc0 zb_28_21
  have r2 : 0 ≤ (m0 a0 48) ∧ (m0 a0 48) ≤ 64 := zi_rd hIm0 hc0 zb_28_48
  have s3 := hRNSm0 a0 hc0
  refine zw_eq (zu_call_at (zt_T n) (zm_105 n) (zdp_105 n) _ _ _ _ _ rfl (zr_105_0 n _ _ a0 m0)) ?_
  refine zw_ite (fun h4 => ?_) (fun h4 => ?_)
  · refine zw_bd (zw_eq (zu_call_at (zt_T n) (zm_85 n) (zdp_85 n) _ _ _ _ _ rfl (zr_85_0 n _ _ a0 1 m0)) ?_)
    generalize hmm5 : zu_up m0 a0 4 1 = m5
    have hIm5 := zi_up hmm5 hIm0 hc0 zb_28_4 (by omega) (by omega)
    have hFm5 := zfr_up hmm5 hFm0 hc0 rfl
    have hRKNm5 := zR_KN_fr (zdis_fr (zfr_up hmm5 (zfr_rf [(28, 5)] _) hc0 rfl) rfl) hRKNm0
    have hRNSm5 := zR_NS_fr (zdis_fr (zfr_up hmm5 (zfr_rf [(28, 5)] _) hc0 rfl) rfl) hRNSm0
    have hRWDm5 := zR_WD_fr (zdis_fr (zfr_up hmm5 (zfr_rf [(28, 5)] _) hc0 rfl) rfl) hRWDm0
    have r6 : 0 ≤ (m5 a0 10) ∧ (m5 a0 10) ≤ 700 := zi_rd hIm5 hc0 zb_28_10
    generalize hmm7 : zu_up m5 a0 5 (m5 a0 10) = m7
    have hIm7 := zi_up hmm7 hIm5 hc0 zb_28_5 (by omega) (by omega)
    have hFm7 := zfr_up hmm7 hFm5 hc0 rfl
    have hRKNm7 := zR_KN_fr (zdis_fr (zfr_up hmm7 (zfr_rf [(28, 6)] _) hc0 rfl) rfl) hRKNm5
    have hRNSm7 := zR_NS_fr (zdis_fr (zfr_up hmm7 (zfr_rf [(28, 6)] _) hc0 rfl) rfl) hRNSm5
    have hRWDm7 := zR_WD_fr (zdis_fr (zfr_up hmm7 (zfr_rf [(28, 6)] _) hc0 rfl) rfl) hRWDm5
    refine zw_b (by omega) ?_
    refine zw_some ?_
    refine zw_b (by omega) ?_
    have r8 : 0 ≤ (m7 a0 7) ∧ (m7 a0 7) ≤ 700 := zi_rd hIm7 hc0 zb_28_7
    have r9 : 0 ≤ (m7 a0 21) ∧ (m7 a0 21) ≤ 64 := zi_rd hIm7 hc0 zb_28_21
    have e10 : (m7 a0 21) = (m0 a0 21) := (Eq.trans (zs_ne hmm7 (Or.inr (by decide))) (zs_ne hmm5 (Or.inr (by decide))))
    have r11 : 0 ≤ (m7 a0 48) ∧ (m7 a0 48) ≤ 64 := zi_rd hIm7 hc0 zb_28_48
    have e12 : (m7 a0 48) = (m0 a0 48) := (Eq.trans (zs_ne hmm7 (Or.inr (by decide))) (zs_ne hmm5 (Or.inr (by decide))))
    exact zw_some ⟨hIm7, hFm7, hRKNm7, hRNSm7, hRWDm7, ⟨by omega, by omega⟩, by omega, by omega⟩
  · have r13 : (-2147483648) ≤ (m0 a0 9) ∧ (m0 a0 9) ≤ 2147483647 := zi_rd hIm0 hc0 zb_28_9
    refine zw_ite (fun h14 => ?_) (fun h14 => ?_)
    · refine zw_ite (fun h15 => ?_) (fun h15 => ?_)
      · refine zw_ite (fun h16 => ?_) (fun h16 => ?_)
        · refine zw_ite (fun h17 => ?_) (fun h17 => ?_)
          · refine zw_ite (fun h18 => ?_) (fun h18 => ?_)
            · refine zw_ite (fun h19 => ?_) (fun h19 => ?_)
              · refine zw_bd (zw_mono (zk_104 n hIm0 hc0 ⟨by omega, by omega⟩ hRNSm0 hRWDm0) (fun v21 m20 hqm20 => ?_))
                obtain ⟨hIm20, hfm20, hvm20⟩ := hqm20
                have hFm20 := zfr_tr hFm0 hfm20 rfl
                obtain ⟨hRNSm20, hRWDm20, hvm20⟩ := hvm20
                have hRKNm20 := zR_KN_fr (zdis_fr hfm20 rfl) hRKNm0
                have s22 := hRNSm20 a0 hc0
                refine zw_ite (fun h23 => ?_) (fun h23 => ?_)
                · refine zw_bd (zw_eq (zu_call_at (zt_T n) (zm_93 n) (zdp_93 n) _ _ _ _ _ rfl (zr_93_0 n _ _ a0 59 m20)) ?_)
                  have r24 : 0 ≤ (m20 a0 8) ∧ (m20 a0 8) ≤ 6 := zi_rd hIm20 hc0 zb_28_8
                  refine zw_ite (fun h25 => ?_) (fun h25 => ?_)
                  · refine zw_b (by omega) ?_
                    refine zw_some ?_
                    refine zw_ite (fun h26 => ?_) (fun h26 => ?_)
                    · exfalso; omega
                    · refine zw_bd (zw_eq (zu_call_at (zt_T n) (zm_85 n) (zdp_85 n) _ _ _ _ _ rfl (zr_85_0 n _ _ a0 1 m20)) ?_)
                      generalize hmm27 : zu_up m20 a0 4 1 = m27
                      have hIm27 := zi_up hmm27 hIm20 hc0 zb_28_4 (by omega) (by omega)
                      have hFm27 := zfr_up hmm27 hFm20 hc0 rfl
                      have hRKNm27 := zR_KN_fr (zdis_fr (zfr_up hmm27 (zfr_rf [(28, 5)] _) hc0 rfl) rfl) hRKNm20
                      have hRNSm27 := zR_NS_fr (zdis_fr (zfr_up hmm27 (zfr_rf [(28, 5)] _) hc0 rfl) rfl) hRNSm20
                      have hRWDm27 := zR_WD_fr (zdis_fr (zfr_up hmm27 (zfr_rf [(28, 5)] _) hc0 rfl) rfl) hRWDm20
                      have r28 : 0 ≤ (m27 a0 10) ∧ (m27 a0 10) ≤ 700 := zi_rd hIm27 hc0 zb_28_10
                      generalize hmm29 : zu_up m27 a0 5 (m27 a0 10) = m29
                      have hIm29 := zi_up hmm29 hIm27 hc0 zb_28_5 (by omega) (by omega)
                      have hFm29 := zfr_up hmm29 hFm27 hc0 rfl
                      have hRKNm29 := zR_KN_fr (zdis_fr (zfr_up hmm29 (zfr_rf [(28, 6)] _) hc0 rfl) rfl) hRKNm27
                      have hRNSm29 := zR_NS_fr (zdis_fr (zfr_up hmm29 (zfr_rf [(28, 6)] _) hc0 rfl) rfl) hRNSm27
                      have hRWDm29 := zR_WD_fr (zdis_fr (zfr_up hmm29 (zfr_rf [(28, 6)] _) hc0 rfl) rfl) hRWDm27
                      refine zw_b (by omega) ?_
                      refine zw_some ?_
                      refine zw_b (by omega) ?_
                      have r30 : 0 ≤ (m29 a0 7) ∧ (m29 a0 7) ≤ 700 := zi_rd hIm29 hc0 zb_28_7
                      have r31 : 0 ≤ (m29 a0 21) ∧ (m29 a0 21) ≤ 64 := zi_rd hIm29 hc0 zb_28_21
                      have e32 : (m29 a0 21) = (m0 a0 21) := (Eq.trans (zs_ne hmm29 (Or.inr (by decide))) (Eq.trans (zs_ne hmm27 (Or.inr (by decide))) (zfr_ap hfm20 hc0 rfl)))
                      have r33 : 0 ≤ (m29 a0 48) ∧ (m29 a0 48) ≤ 64 := zi_rd hIm29 hc0 zb_28_48
                      have e34 : (m29 a0 48) = (m0 a0 48) := (Eq.trans (zs_ne hmm29 (Or.inr (by decide))) (Eq.trans (zs_ne hmm27 (Or.inr (by decide))) (zfr_ap hfm20 hc0 rfl)))
                      exact zw_some ⟨hIm29, hFm29, hRKNm29, hRNSm29, hRWDm29, ⟨by omega, by omega⟩, by omega, by omega⟩
                  · have r35 : (-2147483648) ≤ (m20 a0 9) ∧ (m20 a0 9) ≤ 2147483647 := zi_rd hIm20 hc0 zb_28_9
                    refine zw_ite (fun h36 => ?_) (fun h36 => ?_)
                    · refine zw_b (by omega) ?_
                      refine zw_some ?_
                      refine zw_ite (fun h37 => ?_) (fun h37 => ?_)
                      · exfalso; omega
                      · refine zw_bd (zw_eq (zu_call_at (zt_T n) (zm_85 n) (zdp_85 n) _ _ _ _ _ rfl (zr_85_0 n _ _ a0 1 m20)) ?_)
                        generalize hmm38 : zu_up m20 a0 4 1 = m38
                        have hIm38 := zi_up hmm38 hIm20 hc0 zb_28_4 (by omega) (by omega)
                        have hFm38 := zfr_up hmm38 hFm20 hc0 rfl
                        have hRKNm38 := zR_KN_fr (zdis_fr (zfr_up hmm38 (zfr_rf [(28, 5)] _) hc0 rfl) rfl) hRKNm20
                        have hRNSm38 := zR_NS_fr (zdis_fr (zfr_up hmm38 (zfr_rf [(28, 5)] _) hc0 rfl) rfl) hRNSm20
                        have hRWDm38 := zR_WD_fr (zdis_fr (zfr_up hmm38 (zfr_rf [(28, 5)] _) hc0 rfl) rfl) hRWDm20
                        have r39 : 0 ≤ (m38 a0 10) ∧ (m38 a0 10) ≤ 700 := zi_rd hIm38 hc0 zb_28_10
                        generalize hmm40 : zu_up m38 a0 5 (m38 a0 10) = m40
                        have hIm40 := zi_up hmm40 hIm38 hc0 zb_28_5 (by omega) (by omega)
                        have hFm40 := zfr_up hmm40 hFm38 hc0 rfl
                        have hRKNm40 := zR_KN_fr (zdis_fr (zfr_up hmm40 (zfr_rf [(28, 6)] _) hc0 rfl) rfl) hRKNm38
                        have hRNSm40 := zR_NS_fr (zdis_fr (zfr_up hmm40 (zfr_rf [(28, 6)] _) hc0 rfl) rfl) hRNSm38
                        have hRWDm40 := zR_WD_fr (zdis_fr (zfr_up hmm40 (zfr_rf [(28, 6)] _) hc0 rfl) rfl) hRWDm38
                        refine zw_b (by omega) ?_
                        refine zw_some ?_
                        refine zw_b (by omega) ?_
                        have r41 : 0 ≤ (m40 a0 7) ∧ (m40 a0 7) ≤ 700 := zi_rd hIm40 hc0 zb_28_7
                        have r42 : 0 ≤ (m40 a0 21) ∧ (m40 a0 21) ≤ 64 := zi_rd hIm40 hc0 zb_28_21
                        have e43 : (m40 a0 21) = (m0 a0 21) := (Eq.trans (zs_ne hmm40 (Or.inr (by decide))) (Eq.trans (zs_ne hmm38 (Or.inr (by decide))) (zfr_ap hfm20 hc0 rfl)))
                        have r44 : 0 ≤ (m40 a0 48) ∧ (m40 a0 48) ≤ 64 := zi_rd hIm40 hc0 zb_28_48
                        have e45 : (m40 a0 48) = (m0 a0 48) := (Eq.trans (zs_ne hmm40 (Or.inr (by decide))) (Eq.trans (zs_ne hmm38 (Or.inr (by decide))) (zfr_ap hfm20 hc0 rfl)))
                        exact zw_some ⟨hIm40, hFm40, hRKNm40, hRNSm40, hRWDm40, ⟨by omega, by omega⟩, by omega, by omega⟩
                    · refine zw_b (by omega) ?_
                      refine zw_some ?_
                      refine zw_ite (fun h46 => ?_) (fun h46 => ?_)
                      · refine zw_bd (zw_mono (zk_89 n hIm20 hc0 hRNSm20 hRWDm20) (fun v48 m47 hqm47 => ?_))
                        obtain ⟨hIm47, hfm47, hvm47⟩ := hqm47
                        have hFm47 := zfr_tr hFm20 hfm47 rfl
                        obtain ⟨hRNSm47, hRTRm47, hRWDm47, hvm47⟩ := hvm47
                        have hRKNm47 := zR_KN_fr (zdis_fr hfm47 rfl) hRKNm20
                        have s49 := hRNSm47 a0 hc0
                        have s50 := hRTRm47 a0 hc0
                        refine zw_b (by omega) ?_
                        have r51 : 0 ≤ (m47 a0 7) ∧ (m47 a0 7) ≤ 700 := zi_rd hIm47 hc0 zb_28_7
                        have r52 : 0 ≤ (m47 a0 21) ∧ (m47 a0 21) ≤ 64 := zi_rd hIm47 hc0 zb_28_21
                        have e53 : (m47 a0 21) = (m0 a0 21) := (Eq.trans (zfr_ap hfm47 hc0 rfl) (zfr_ap hfm20 hc0 rfl))
                        have r54 : 0 ≤ (m47 a0 48) ∧ (m47 a0 48) ≤ 64 := zi_rd hIm47 hc0 zb_28_48
                        have e55 : (m47 a0 48) = (m0 a0 48) := (Eq.trans (zfr_ap hfm47 hc0 rfl) (zfr_ap hfm20 hc0 rfl))
                        exact zw_some ⟨hIm47, hFm47, hRKNm47, hRNSm47, hRWDm47, ⟨by omega, by omega⟩, by omega, by omega⟩
                      · exfalso; omega
                · refine zw_b (by omega) ?_
                  have r56 : 0 ≤ (m20 a0 7) ∧ (m20 a0 7) ≤ 700 := zi_rd hIm20 hc0 zb_28_7
                  have r57 : 0 ≤ (m20 a0 21) ∧ (m20 a0 21) ≤ 64 := zi_rd hIm20 hc0 zb_28_21
                  have e58 : (m20 a0 21) = (m0 a0 21) := (zfr_ap hfm20 hc0 rfl)
                  have r59 : 0 ≤ (m20 a0 48) ∧ (m20 a0 48) ≤ 64 := zi_rd hIm20 hc0 zb_28_48
                  have e60 : (m20 a0 48) = (m0 a0 48) := (zfr_ap hfm20 hc0 rfl)
                  exact zw_some ⟨hIm20, hFm20, hRKNm20, hRNSm20, hRWDm20, ⟨by omega, by omega⟩, by omega, by omega⟩
              · refine zw_bd (zw_mono (zk_103 n hIm0 hc0 ⟨by omega, by omega⟩ ⟨by omega, by omega⟩ (by omega) hRKNm0 hRNSm0 hRWDm0) (fun v62 m61 hqm61 => ?_))
                obtain ⟨hIm61, hfm61, hvm61⟩ := hqm61
                have hFm61 := zfr_tr hFm0 hfm61 rfl
                obtain ⟨hRKNm61, hRNSm61, hRTRm61, hRWDm61, hvm61⟩ := hvm61
                have s63 := hRNSm61 a0 hc0
                have s64 := hRTRm61 a0 hc0
                refine zw_ite (fun h65 => ?_) (fun h65 => ?_)
                · refine zw_bd (zw_eq (zu_call_at (zt_T n) (zm_93 n) (zdp_93 n) _ _ _ _ _ rfl (zr_93_0 n _ _ a0 59 m61)) ?_)
                  have r66 : 0 ≤ (m61 a0 8) ∧ (m61 a0 8) ≤ 6 := zi_rd hIm61 hc0 zb_28_8
                  refine zw_ite (fun h67 => ?_) (fun h67 => ?_)
                  · refine zw_b (by omega) ?_
                    refine zw_some ?_
                    refine zw_ite (fun h68 => ?_) (fun h68 => ?_)
                    · exfalso; omega
                    · refine zw_bd (zw_eq (zu_call_at (zt_T n) (zm_85 n) (zdp_85 n) _ _ _ _ _ rfl (zr_85_0 n _ _ a0 1 m61)) ?_)
                      generalize hmm69 : zu_up m61 a0 4 1 = m69
                      have hIm69 := zi_up hmm69 hIm61 hc0 zb_28_4 (by omega) (by omega)
                      have hFm69 := zfr_up hmm69 hFm61 hc0 rfl
                      have hRKNm69 := zR_KN_fr (zdis_fr (zfr_up hmm69 (zfr_rf [(28, 5)] _) hc0 rfl) rfl) hRKNm61
                      have hRNSm69 := zR_NS_fr (zdis_fr (zfr_up hmm69 (zfr_rf [(28, 5)] _) hc0 rfl) rfl) hRNSm61
                      have hRTRm69 := zR_TR_fr (zdis_fr (zfr_up hmm69 (zfr_rf [(28, 5)] _) hc0 rfl) rfl) hRTRm61
                      have hRWDm69 := zR_WD_fr (zdis_fr (zfr_up hmm69 (zfr_rf [(28, 5)] _) hc0 rfl) rfl) hRWDm61
                      have r70 : 0 ≤ (m69 a0 10) ∧ (m69 a0 10) ≤ 700 := zi_rd hIm69 hc0 zb_28_10
                      generalize hmm71 : zu_up m69 a0 5 (m69 a0 10) = m71
                      have hIm71 := zi_up hmm71 hIm69 hc0 zb_28_5 (by omega) (by omega)
                      have hFm71 := zfr_up hmm71 hFm69 hc0 rfl
                      have hRKNm71 := zR_KN_fr (zdis_fr (zfr_up hmm71 (zfr_rf [(28, 6)] _) hc0 rfl) rfl) hRKNm69
                      have hRNSm71 := zR_NS_fr (zdis_fr (zfr_up hmm71 (zfr_rf [(28, 6)] _) hc0 rfl) rfl) hRNSm69
                      have hRTRm71 := zR_TR_fr (zdis_fr (zfr_up hmm71 (zfr_rf [(28, 6)] _) hc0 rfl) rfl) hRTRm69
                      have hRWDm71 := zR_WD_fr (zdis_fr (zfr_up hmm71 (zfr_rf [(28, 6)] _) hc0 rfl) rfl) hRWDm69
                      refine zw_b (by omega) ?_
                      refine zw_some ?_
                      refine zw_b (by omega) ?_
                      have r72 : 0 ≤ (m71 a0 7) ∧ (m71 a0 7) ≤ 700 := zi_rd hIm71 hc0 zb_28_7
                      have r73 : 0 ≤ (m71 a0 21) ∧ (m71 a0 21) ≤ 64 := zi_rd hIm71 hc0 zb_28_21
                      have r74 : 0 ≤ (m71 a0 48) ∧ (m71 a0 48) ≤ 64 := zi_rd hIm71 hc0 zb_28_48
                      exact zw_some ⟨hIm71, hFm71, hRKNm71, hRNSm71, hRWDm71, ⟨by omega, by omega⟩, by omega, by omega⟩
                  · have r75 : (-2147483648) ≤ (m61 a0 9) ∧ (m61 a0 9) ≤ 2147483647 := zi_rd hIm61 hc0 zb_28_9
                    refine zw_ite (fun h76 => ?_) (fun h76 => ?_)
                    · refine zw_b (by omega) ?_
                      refine zw_some ?_
                      refine zw_ite (fun h77 => ?_) (fun h77 => ?_)
                      · exfalso; omega
                      · refine zw_bd (zw_eq (zu_call_at (zt_T n) (zm_85 n) (zdp_85 n) _ _ _ _ _ rfl (zr_85_0 n _ _ a0 1 m61)) ?_)
                        generalize hmm78 : zu_up m61 a0 4 1 = m78
                        have hIm78 := zi_up hmm78 hIm61 hc0 zb_28_4 (by omega) (by omega)
                        have hFm78 := zfr_up hmm78 hFm61 hc0 rfl
                        have hRKNm78 := zR_KN_fr (zdis_fr (zfr_up hmm78 (zfr_rf [(28, 5)] _) hc0 rfl) rfl) hRKNm61
                        have hRNSm78 := zR_NS_fr (zdis_fr (zfr_up hmm78 (zfr_rf [(28, 5)] _) hc0 rfl) rfl) hRNSm61
                        have hRTRm78 := zR_TR_fr (zdis_fr (zfr_up hmm78 (zfr_rf [(28, 5)] _) hc0 rfl) rfl) hRTRm61
                        have hRWDm78 := zR_WD_fr (zdis_fr (zfr_up hmm78 (zfr_rf [(28, 5)] _) hc0 rfl) rfl) hRWDm61
                        have r79 : 0 ≤ (m78 a0 10) ∧ (m78 a0 10) ≤ 700 := zi_rd hIm78 hc0 zb_28_10
                        generalize hmm80 : zu_up m78 a0 5 (m78 a0 10) = m80
                        have hIm80 := zi_up hmm80 hIm78 hc0 zb_28_5 (by omega) (by omega)
                        have hFm80 := zfr_up hmm80 hFm78 hc0 rfl
                        have hRKNm80 := zR_KN_fr (zdis_fr (zfr_up hmm80 (zfr_rf [(28, 6)] _) hc0 rfl) rfl) hRKNm78
                        have hRNSm80 := zR_NS_fr (zdis_fr (zfr_up hmm80 (zfr_rf [(28, 6)] _) hc0 rfl) rfl) hRNSm78
                        have hRTRm80 := zR_TR_fr (zdis_fr (zfr_up hmm80 (zfr_rf [(28, 6)] _) hc0 rfl) rfl) hRTRm78
                        have hRWDm80 := zR_WD_fr (zdis_fr (zfr_up hmm80 (zfr_rf [(28, 6)] _) hc0 rfl) rfl) hRWDm78
                        refine zw_b (by omega) ?_
                        refine zw_some ?_
                        refine zw_b (by omega) ?_
                        have r81 : 0 ≤ (m80 a0 7) ∧ (m80 a0 7) ≤ 700 := zi_rd hIm80 hc0 zb_28_7
                        have r82 : 0 ≤ (m80 a0 21) ∧ (m80 a0 21) ≤ 64 := zi_rd hIm80 hc0 zb_28_21
                        have r83 : 0 ≤ (m80 a0 48) ∧ (m80 a0 48) ≤ 64 := zi_rd hIm80 hc0 zb_28_48
                        exact zw_some ⟨hIm80, hFm80, hRKNm80, hRNSm80, hRWDm80, ⟨by omega, by omega⟩, by omega, by omega⟩
                    · refine zw_b (by omega) ?_
                      refine zw_some ?_
                      refine zw_ite (fun h84 => ?_) (fun h84 => ?_)
                      · refine zw_bd (zw_mono (zk_89 n hIm61 hc0 hRNSm61 hRWDm61) (fun v86 m85 hqm85 => ?_))
                        obtain ⟨hIm85, hfm85, hvm85⟩ := hqm85
                        have hFm85 := zfr_tr hFm61 hfm85 rfl
                        obtain ⟨hRNSm85, hRTRm85, hRWDm85, hvm85⟩ := hvm85
                        have hRKNm85 := zR_KN_fr (zdis_fr hfm85 rfl) hRKNm61
                        have s87 := hRNSm85 a0 hc0
                        have s88 := hRTRm85 a0 hc0
                        refine zw_b (by omega) ?_
                        have r89 : 0 ≤ (m85 a0 7) ∧ (m85 a0 7) ≤ 700 := zi_rd hIm85 hc0 zb_28_7
                        have r90 : 0 ≤ (m85 a0 21) ∧ (m85 a0 21) ≤ 64 := zi_rd hIm85 hc0 zb_28_21
                        have r91 : 0 ≤ (m85 a0 48) ∧ (m85 a0 48) ≤ 64 := zi_rd hIm85 hc0 zb_28_48
                        exact zw_some ⟨hIm85, hFm85, hRKNm85, hRNSm85, hRWDm85, ⟨by omega, by omega⟩, by omega, by omega⟩
                      · exfalso; omega
                · refine zw_b (by omega) ?_
                  have r92 : 0 ≤ (m61 a0 7) ∧ (m61 a0 7) ≤ 700 := zi_rd hIm61 hc0 zb_28_7
                  have r93 : 0 ≤ (m61 a0 21) ∧ (m61 a0 21) ≤ 64 := zi_rd hIm61 hc0 zb_28_21
                  have r94 : 0 ≤ (m61 a0 48) ∧ (m61 a0 48) ≤ 64 := zi_rd hIm61 hc0 zb_28_48
                  exact zw_some ⟨hIm61, hFm61, hRKNm61, hRNSm61, hRWDm61, ⟨by omega, by omega⟩, by omega, by omega⟩
            · refine zw_bd (zw_mono (zk_102 n hIm0 hc0 ⟨by omega, by omega⟩ ⟨by omega, by omega⟩ hRNSm0 hRWDm0) (fun v96 m95 hqm95 => ?_))
              obtain ⟨hIm95, hfm95, hvm95⟩ := hqm95
              have hFm95 := zfr_tr hFm0 hfm95 rfl
              obtain ⟨hRNSm95, hRWDm95, hvm95⟩ := hvm95
              have hRKNm95 := zR_KN_fr (zdis_fr hfm95 rfl) hRKNm0
              have s97 := hRNSm95 a0 hc0
              refine zw_ite (fun h98 => ?_) (fun h98 => ?_)
              · refine zw_bd (zw_eq (zu_call_at (zt_T n) (zm_93 n) (zdp_93 n) _ _ _ _ _ rfl (zr_93_0 n _ _ a0 59 m95)) ?_)
                have r99 : 0 ≤ (m95 a0 8) ∧ (m95 a0 8) ≤ 6 := zi_rd hIm95 hc0 zb_28_8
                refine zw_ite (fun h100 => ?_) (fun h100 => ?_)
                · refine zw_b (by omega) ?_
                  refine zw_some ?_
                  refine zw_ite (fun h101 => ?_) (fun h101 => ?_)
                  · exfalso; omega
                  · refine zw_bd (zw_eq (zu_call_at (zt_T n) (zm_85 n) (zdp_85 n) _ _ _ _ _ rfl (zr_85_0 n _ _ a0 1 m95)) ?_)
                    generalize hmm102 : zu_up m95 a0 4 1 = m102
                    have hIm102 := zi_up hmm102 hIm95 hc0 zb_28_4 (by omega) (by omega)
                    have hFm102 := zfr_up hmm102 hFm95 hc0 rfl
                    have hRKNm102 := zR_KN_fr (zdis_fr (zfr_up hmm102 (zfr_rf [(28, 5)] _) hc0 rfl) rfl) hRKNm95
                    have hRNSm102 := zR_NS_fr (zdis_fr (zfr_up hmm102 (zfr_rf [(28, 5)] _) hc0 rfl) rfl) hRNSm95
                    have hRWDm102 := zR_WD_fr (zdis_fr (zfr_up hmm102 (zfr_rf [(28, 5)] _) hc0 rfl) rfl) hRWDm95
                    have r103 : 0 ≤ (m102 a0 10) ∧ (m102 a0 10) ≤ 700 := zi_rd hIm102 hc0 zb_28_10
                    generalize hmm104 : zu_up m102 a0 5 (m102 a0 10) = m104
                    have hIm104 := zi_up hmm104 hIm102 hc0 zb_28_5 (by omega) (by omega)
                    have hFm104 := zfr_up hmm104 hFm102 hc0 rfl
                    have hRKNm104 := zR_KN_fr (zdis_fr (zfr_up hmm104 (zfr_rf [(28, 6)] _) hc0 rfl) rfl) hRKNm102
                    have hRNSm104 := zR_NS_fr (zdis_fr (zfr_up hmm104 (zfr_rf [(28, 6)] _) hc0 rfl) rfl) hRNSm102
                    have hRWDm104 := zR_WD_fr (zdis_fr (zfr_up hmm104 (zfr_rf [(28, 6)] _) hc0 rfl) rfl) hRWDm102
                    refine zw_b (by omega) ?_
                    refine zw_some ?_
                    refine zw_b (by omega) ?_
                    have r105 : 0 ≤ (m104 a0 7) ∧ (m104 a0 7) ≤ 700 := zi_rd hIm104 hc0 zb_28_7
                    have r106 : 0 ≤ (m104 a0 21) ∧ (m104 a0 21) ≤ 64 := zi_rd hIm104 hc0 zb_28_21
                    have e107 : (m104 a0 21) = (m0 a0 21) := (Eq.trans (zs_ne hmm104 (Or.inr (by decide))) (Eq.trans (zs_ne hmm102 (Or.inr (by decide))) (zfr_ap hfm95 hc0 rfl)))
                    have r108 : 0 ≤ (m104 a0 48) ∧ (m104 a0 48) ≤ 64 := zi_rd hIm104 hc0 zb_28_48
                    have e109 : (m104 a0 48) = (m0 a0 48) := (Eq.trans (zs_ne hmm104 (Or.inr (by decide))) (Eq.trans (zs_ne hmm102 (Or.inr (by decide))) (zfr_ap hfm95 hc0 rfl)))
                    exact zw_some ⟨hIm104, hFm104, hRKNm104, hRNSm104, hRWDm104, ⟨by omega, by omega⟩, by omega, by omega⟩
                · have r110 : (-2147483648) ≤ (m95 a0 9) ∧ (m95 a0 9) ≤ 2147483647 := zi_rd hIm95 hc0 zb_28_9
                  refine zw_ite (fun h111 => ?_) (fun h111 => ?_)
                  · refine zw_b (by omega) ?_
                    refine zw_some ?_
                    refine zw_ite (fun h112 => ?_) (fun h112 => ?_)
                    · exfalso; omega
                    · refine zw_bd (zw_eq (zu_call_at (zt_T n) (zm_85 n) (zdp_85 n) _ _ _ _ _ rfl (zr_85_0 n _ _ a0 1 m95)) ?_)
                      generalize hmm113 : zu_up m95 a0 4 1 = m113
                      have hIm113 := zi_up hmm113 hIm95 hc0 zb_28_4 (by omega) (by omega)
                      have hFm113 := zfr_up hmm113 hFm95 hc0 rfl
                      have hRKNm113 := zR_KN_fr (zdis_fr (zfr_up hmm113 (zfr_rf [(28, 5)] _) hc0 rfl) rfl) hRKNm95
                      have hRNSm113 := zR_NS_fr (zdis_fr (zfr_up hmm113 (zfr_rf [(28, 5)] _) hc0 rfl) rfl) hRNSm95
                      have hRWDm113 := zR_WD_fr (zdis_fr (zfr_up hmm113 (zfr_rf [(28, 5)] _) hc0 rfl) rfl) hRWDm95
                      have r114 : 0 ≤ (m113 a0 10) ∧ (m113 a0 10) ≤ 700 := zi_rd hIm113 hc0 zb_28_10
                      generalize hmm115 : zu_up m113 a0 5 (m113 a0 10) = m115
                      have hIm115 := zi_up hmm115 hIm113 hc0 zb_28_5 (by omega) (by omega)
                      have hFm115 := zfr_up hmm115 hFm113 hc0 rfl
                      have hRKNm115 := zR_KN_fr (zdis_fr (zfr_up hmm115 (zfr_rf [(28, 6)] _) hc0 rfl) rfl) hRKNm113
                      have hRNSm115 := zR_NS_fr (zdis_fr (zfr_up hmm115 (zfr_rf [(28, 6)] _) hc0 rfl) rfl) hRNSm113
                      have hRWDm115 := zR_WD_fr (zdis_fr (zfr_up hmm115 (zfr_rf [(28, 6)] _) hc0 rfl) rfl) hRWDm113
                      refine zw_b (by omega) ?_
                      refine zw_some ?_
                      refine zw_b (by omega) ?_
                      have r116 : 0 ≤ (m115 a0 7) ∧ (m115 a0 7) ≤ 700 := zi_rd hIm115 hc0 zb_28_7
                      have r117 : 0 ≤ (m115 a0 21) ∧ (m115 a0 21) ≤ 64 := zi_rd hIm115 hc0 zb_28_21
                      have e118 : (m115 a0 21) = (m0 a0 21) := (Eq.trans (zs_ne hmm115 (Or.inr (by decide))) (Eq.trans (zs_ne hmm113 (Or.inr (by decide))) (zfr_ap hfm95 hc0 rfl)))
                      have r119 : 0 ≤ (m115 a0 48) ∧ (m115 a0 48) ≤ 64 := zi_rd hIm115 hc0 zb_28_48
                      have e120 : (m115 a0 48) = (m0 a0 48) := (Eq.trans (zs_ne hmm115 (Or.inr (by decide))) (Eq.trans (zs_ne hmm113 (Or.inr (by decide))) (zfr_ap hfm95 hc0 rfl)))
                      exact zw_some ⟨hIm115, hFm115, hRKNm115, hRNSm115, hRWDm115, ⟨by omega, by omega⟩, by omega, by omega⟩
                  · refine zw_b (by omega) ?_
                    refine zw_some ?_
                    refine zw_ite (fun h121 => ?_) (fun h121 => ?_)
                    · refine zw_bd (zw_mono (zk_89 n hIm95 hc0 hRNSm95 hRWDm95) (fun v123 m122 hqm122 => ?_))
                      obtain ⟨hIm122, hfm122, hvm122⟩ := hqm122
                      have hFm122 := zfr_tr hFm95 hfm122 rfl
                      obtain ⟨hRNSm122, hRTRm122, hRWDm122, hvm122⟩ := hvm122
                      have hRKNm122 := zR_KN_fr (zdis_fr hfm122 rfl) hRKNm95
                      have s124 := hRNSm122 a0 hc0
                      have s125 := hRTRm122 a0 hc0
                      refine zw_b (by omega) ?_
                      have r126 : 0 ≤ (m122 a0 7) ∧ (m122 a0 7) ≤ 700 := zi_rd hIm122 hc0 zb_28_7
                      have r127 : 0 ≤ (m122 a0 21) ∧ (m122 a0 21) ≤ 64 := zi_rd hIm122 hc0 zb_28_21
                      have e128 : (m122 a0 21) = (m0 a0 21) := (Eq.trans (zfr_ap hfm122 hc0 rfl) (zfr_ap hfm95 hc0 rfl))
                      have r129 : 0 ≤ (m122 a0 48) ∧ (m122 a0 48) ≤ 64 := zi_rd hIm122 hc0 zb_28_48
                      have e130 : (m122 a0 48) = (m0 a0 48) := (Eq.trans (zfr_ap hfm122 hc0 rfl) (zfr_ap hfm95 hc0 rfl))
                      exact zw_some ⟨hIm122, hFm122, hRKNm122, hRNSm122, hRWDm122, ⟨by omega, by omega⟩, by omega, by omega⟩
                    · exfalso; omega
              · refine zw_b (by omega) ?_
                have r131 : 0 ≤ (m95 a0 7) ∧ (m95 a0 7) ≤ 700 := zi_rd hIm95 hc0 zb_28_7
                have r132 : 0 ≤ (m95 a0 21) ∧ (m95 a0 21) ≤ 64 := zi_rd hIm95 hc0 zb_28_21
                have e133 : (m95 a0 21) = (m0 a0 21) := (zfr_ap hfm95 hc0 rfl)
                have r134 : 0 ≤ (m95 a0 48) ∧ (m95 a0 48) ≤ 64 := zi_rd hIm95 hc0 zb_28_48
                have e135 : (m95 a0 48) = (m0 a0 48) := (zfr_ap hfm95 hc0 rfl)
                exact zw_some ⟨hIm95, hFm95, hRKNm95, hRNSm95, hRWDm95, ⟨by omega, by omega⟩, by omega, by omega⟩
          · refine zw_bd (zw_mono (zk_101 n hIm0 hc0 ⟨by omega, by omega⟩ ⟨by omega, by omega⟩ hRNSm0 hRWDm0) (fun v137 m136 hqm136 => ?_))
            obtain ⟨hIm136, hfm136, hvm136⟩ := hqm136
            have hFm136 := zfr_tr hFm0 hfm136 rfl
            obtain ⟨hRNSm136, hRWDm136, hvm136⟩ := hvm136
            have hRKNm136 := zR_KN_fr (zdis_fr hfm136 rfl) hRKNm0
            have s138 := hRNSm136 a0 hc0
            refine zw_ite (fun h139 => ?_) (fun h139 => ?_)
            · refine zw_bd (zw_eq (zu_call_at (zt_T n) (zm_93 n) (zdp_93 n) _ _ _ _ _ rfl (zr_93_0 n _ _ a0 59 m136)) ?_)
              have r140 : 0 ≤ (m136 a0 8) ∧ (m136 a0 8) ≤ 6 := zi_rd hIm136 hc0 zb_28_8
              refine zw_ite (fun h141 => ?_) (fun h141 => ?_)
              · refine zw_b (by omega) ?_
                refine zw_some ?_
                refine zw_ite (fun h142 => ?_) (fun h142 => ?_)
                · exfalso; omega
                · refine zw_bd (zw_eq (zu_call_at (zt_T n) (zm_85 n) (zdp_85 n) _ _ _ _ _ rfl (zr_85_0 n _ _ a0 1 m136)) ?_)
                  generalize hmm143 : zu_up m136 a0 4 1 = m143
                  have hIm143 := zi_up hmm143 hIm136 hc0 zb_28_4 (by omega) (by omega)
                  have hFm143 := zfr_up hmm143 hFm136 hc0 rfl
                  have hRKNm143 := zR_KN_fr (zdis_fr (zfr_up hmm143 (zfr_rf [(28, 5)] _) hc0 rfl) rfl) hRKNm136
                  have hRNSm143 := zR_NS_fr (zdis_fr (zfr_up hmm143 (zfr_rf [(28, 5)] _) hc0 rfl) rfl) hRNSm136
                  have hRWDm143 := zR_WD_fr (zdis_fr (zfr_up hmm143 (zfr_rf [(28, 5)] _) hc0 rfl) rfl) hRWDm136
                  have r144 : 0 ≤ (m143 a0 10) ∧ (m143 a0 10) ≤ 700 := zi_rd hIm143 hc0 zb_28_10
                  generalize hmm145 : zu_up m143 a0 5 (m143 a0 10) = m145
                  have hIm145 := zi_up hmm145 hIm143 hc0 zb_28_5 (by omega) (by omega)
                  have hFm145 := zfr_up hmm145 hFm143 hc0 rfl
                  have hRKNm145 := zR_KN_fr (zdis_fr (zfr_up hmm145 (zfr_rf [(28, 6)] _) hc0 rfl) rfl) hRKNm143
                  have hRNSm145 := zR_NS_fr (zdis_fr (zfr_up hmm145 (zfr_rf [(28, 6)] _) hc0 rfl) rfl) hRNSm143
                  have hRWDm145 := zR_WD_fr (zdis_fr (zfr_up hmm145 (zfr_rf [(28, 6)] _) hc0 rfl) rfl) hRWDm143
                  refine zw_b (by omega) ?_
                  refine zw_some ?_
                  refine zw_b (by omega) ?_
                  have r146 : 0 ≤ (m145 a0 7) ∧ (m145 a0 7) ≤ 700 := zi_rd hIm145 hc0 zb_28_7
                  have r147 : 0 ≤ (m145 a0 21) ∧ (m145 a0 21) ≤ 64 := zi_rd hIm145 hc0 zb_28_21
                  have e148 : (m145 a0 21) = (m0 a0 21) := (Eq.trans (zs_ne hmm145 (Or.inr (by decide))) (Eq.trans (zs_ne hmm143 (Or.inr (by decide))) (zfr_ap hfm136 hc0 rfl)))
                  have r149 : 0 ≤ (m145 a0 48) ∧ (m145 a0 48) ≤ 64 := zi_rd hIm145 hc0 zb_28_48
                  have e150 : (m145 a0 48) = (m0 a0 48) := (Eq.trans (zs_ne hmm145 (Or.inr (by decide))) (Eq.trans (zs_ne hmm143 (Or.inr (by decide))) (zfr_ap hfm136 hc0 rfl)))
                  exact zw_some ⟨hIm145, hFm145, hRKNm145, hRNSm145, hRWDm145, ⟨by omega, by omega⟩, by omega, by omega⟩
              · have r151 : (-2147483648) ≤ (m136 a0 9) ∧ (m136 a0 9) ≤ 2147483647 := zi_rd hIm136 hc0 zb_28_9
                refine zw_ite (fun h152 => ?_) (fun h152 => ?_)
                · refine zw_b (by omega) ?_
                  refine zw_some ?_
                  refine zw_ite (fun h153 => ?_) (fun h153 => ?_)
                  · exfalso; omega
                  · refine zw_bd (zw_eq (zu_call_at (zt_T n) (zm_85 n) (zdp_85 n) _ _ _ _ _ rfl (zr_85_0 n _ _ a0 1 m136)) ?_)
                    generalize hmm154 : zu_up m136 a0 4 1 = m154
                    have hIm154 := zi_up hmm154 hIm136 hc0 zb_28_4 (by omega) (by omega)
                    have hFm154 := zfr_up hmm154 hFm136 hc0 rfl
                    have hRKNm154 := zR_KN_fr (zdis_fr (zfr_up hmm154 (zfr_rf [(28, 5)] _) hc0 rfl) rfl) hRKNm136
                    have hRNSm154 := zR_NS_fr (zdis_fr (zfr_up hmm154 (zfr_rf [(28, 5)] _) hc0 rfl) rfl) hRNSm136
                    have hRWDm154 := zR_WD_fr (zdis_fr (zfr_up hmm154 (zfr_rf [(28, 5)] _) hc0 rfl) rfl) hRWDm136
                    have r155 : 0 ≤ (m154 a0 10) ∧ (m154 a0 10) ≤ 700 := zi_rd hIm154 hc0 zb_28_10
                    generalize hmm156 : zu_up m154 a0 5 (m154 a0 10) = m156
                    have hIm156 := zi_up hmm156 hIm154 hc0 zb_28_5 (by omega) (by omega)
                    have hFm156 := zfr_up hmm156 hFm154 hc0 rfl
                    have hRKNm156 := zR_KN_fr (zdis_fr (zfr_up hmm156 (zfr_rf [(28, 6)] _) hc0 rfl) rfl) hRKNm154
                    have hRNSm156 := zR_NS_fr (zdis_fr (zfr_up hmm156 (zfr_rf [(28, 6)] _) hc0 rfl) rfl) hRNSm154
                    have hRWDm156 := zR_WD_fr (zdis_fr (zfr_up hmm156 (zfr_rf [(28, 6)] _) hc0 rfl) rfl) hRWDm154
                    refine zw_b (by omega) ?_
                    refine zw_some ?_
                    refine zw_b (by omega) ?_
                    have r157 : 0 ≤ (m156 a0 7) ∧ (m156 a0 7) ≤ 700 := zi_rd hIm156 hc0 zb_28_7
                    have r158 : 0 ≤ (m156 a0 21) ∧ (m156 a0 21) ≤ 64 := zi_rd hIm156 hc0 zb_28_21
                    have e159 : (m156 a0 21) = (m0 a0 21) := (Eq.trans (zs_ne hmm156 (Or.inr (by decide))) (Eq.trans (zs_ne hmm154 (Or.inr (by decide))) (zfr_ap hfm136 hc0 rfl)))
                    have r160 : 0 ≤ (m156 a0 48) ∧ (m156 a0 48) ≤ 64 := zi_rd hIm156 hc0 zb_28_48
                    have e161 : (m156 a0 48) = (m0 a0 48) := (Eq.trans (zs_ne hmm156 (Or.inr (by decide))) (Eq.trans (zs_ne hmm154 (Or.inr (by decide))) (zfr_ap hfm136 hc0 rfl)))
                    exact zw_some ⟨hIm156, hFm156, hRKNm156, hRNSm156, hRWDm156, ⟨by omega, by omega⟩, by omega, by omega⟩
                · refine zw_b (by omega) ?_
                  refine zw_some ?_
                  refine zw_ite (fun h162 => ?_) (fun h162 => ?_)
                  · refine zw_bd (zw_mono (zk_89 n hIm136 hc0 hRNSm136 hRWDm136) (fun v164 m163 hqm163 => ?_))
                    obtain ⟨hIm163, hfm163, hvm163⟩ := hqm163
                    have hFm163 := zfr_tr hFm136 hfm163 rfl
                    obtain ⟨hRNSm163, hRTRm163, hRWDm163, hvm163⟩ := hvm163
                    have hRKNm163 := zR_KN_fr (zdis_fr hfm163 rfl) hRKNm136
                    have s165 := hRNSm163 a0 hc0
                    have s166 := hRTRm163 a0 hc0
                    refine zw_b (by omega) ?_
                    have r167 : 0 ≤ (m163 a0 7) ∧ (m163 a0 7) ≤ 700 := zi_rd hIm163 hc0 zb_28_7
                    have r168 : 0 ≤ (m163 a0 21) ∧ (m163 a0 21) ≤ 64 := zi_rd hIm163 hc0 zb_28_21
                    have e169 : (m163 a0 21) = (m0 a0 21) := (Eq.trans (zfr_ap hfm163 hc0 rfl) (zfr_ap hfm136 hc0 rfl))
                    have r170 : 0 ≤ (m163 a0 48) ∧ (m163 a0 48) ≤ 64 := zi_rd hIm163 hc0 zb_28_48
                    have e171 : (m163 a0 48) = (m0 a0 48) := (Eq.trans (zfr_ap hfm163 hc0 rfl) (zfr_ap hfm136 hc0 rfl))
                    exact zw_some ⟨hIm163, hFm163, hRKNm163, hRNSm163, hRWDm163, ⟨by omega, by omega⟩, by omega, by omega⟩
                  · exfalso; omega
            · refine zw_b (by omega) ?_
              have r172 : 0 ≤ (m136 a0 7) ∧ (m136 a0 7) ≤ 700 := zi_rd hIm136 hc0 zb_28_7
              have r173 : 0 ≤ (m136 a0 21) ∧ (m136 a0 21) ≤ 64 := zi_rd hIm136 hc0 zb_28_21
              have e174 : (m136 a0 21) = (m0 a0 21) := (zfr_ap hfm136 hc0 rfl)
              have r175 : 0 ≤ (m136 a0 48) ∧ (m136 a0 48) ≤ 64 := zi_rd hIm136 hc0 zb_28_48
              have e176 : (m136 a0 48) = (m0 a0 48) := (zfr_ap hfm136 hc0 rfl)
              exact zw_some ⟨hIm136, hFm136, hRKNm136, hRNSm136, hRWDm136, ⟨by omega, by omega⟩, by omega, by omega⟩
        · have w177 := zu_w32_rg ((m0 a0 9) - 1)
          have w178 := zu_w32_rg ((zu_w32 ((m0 a0 9) - 1)) + 1)
          refine zw_bd (zw_mono (zk_100 n hIm0 hc0 ⟨by omega, by omega⟩ ⟨by omega, by omega⟩ ⟨by omega, by omega⟩ hRNSm0 hRWDm0) (fun v180 m179 hqm179 => ?_))
          obtain ⟨hIm179, hfm179, hvm179⟩ := hqm179
          have hFm179 := zfr_tr hFm0 hfm179 rfl
          obtain ⟨hRNSm179, hRWDm179, hvm179⟩ := hvm179
          have hRKNm179 := zR_KN_fr (zdis_fr hfm179 rfl) hRKNm0
          have s181 := hRNSm179 a0 hc0
          refine zw_ite (fun h182 => ?_) (fun h182 => ?_)
          · refine zw_bd (zw_eq (zu_call_at (zt_T n) (zm_93 n) (zdp_93 n) _ _ _ _ _ rfl (zr_93_0 n _ _ a0 59 m179)) ?_)
            have r183 : 0 ≤ (m179 a0 8) ∧ (m179 a0 8) ≤ 6 := zi_rd hIm179 hc0 zb_28_8
            refine zw_ite (fun h184 => ?_) (fun h184 => ?_)
            · refine zw_b (by omega) ?_
              refine zw_some ?_
              refine zw_ite (fun h185 => ?_) (fun h185 => ?_)
              · exfalso; omega
              · refine zw_bd (zw_eq (zu_call_at (zt_T n) (zm_85 n) (zdp_85 n) _ _ _ _ _ rfl (zr_85_0 n _ _ a0 1 m179)) ?_)
                generalize hmm186 : zu_up m179 a0 4 1 = m186
                have hIm186 := zi_up hmm186 hIm179 hc0 zb_28_4 (by omega) (by omega)
                have hFm186 := zfr_up hmm186 hFm179 hc0 rfl
                have hRKNm186 := zR_KN_fr (zdis_fr (zfr_up hmm186 (zfr_rf [(28, 5)] _) hc0 rfl) rfl) hRKNm179
                have hRNSm186 := zR_NS_fr (zdis_fr (zfr_up hmm186 (zfr_rf [(28, 5)] _) hc0 rfl) rfl) hRNSm179
                have hRWDm186 := zR_WD_fr (zdis_fr (zfr_up hmm186 (zfr_rf [(28, 5)] _) hc0 rfl) rfl) hRWDm179
                have r187 : 0 ≤ (m186 a0 10) ∧ (m186 a0 10) ≤ 700 := zi_rd hIm186 hc0 zb_28_10
                generalize hmm188 : zu_up m186 a0 5 (m186 a0 10) = m188
                have hIm188 := zi_up hmm188 hIm186 hc0 zb_28_5 (by omega) (by omega)
                have hFm188 := zfr_up hmm188 hFm186 hc0 rfl
                have hRKNm188 := zR_KN_fr (zdis_fr (zfr_up hmm188 (zfr_rf [(28, 6)] _) hc0 rfl) rfl) hRKNm186
                have hRNSm188 := zR_NS_fr (zdis_fr (zfr_up hmm188 (zfr_rf [(28, 6)] _) hc0 rfl) rfl) hRNSm186
                have hRWDm188 := zR_WD_fr (zdis_fr (zfr_up hmm188 (zfr_rf [(28, 6)] _) hc0 rfl) rfl) hRWDm186
                refine zw_b (by omega) ?_
                refine zw_some ?_
                refine zw_b (by omega) ?_
                have r189 : 0 ≤ (m188 a0 7) ∧ (m188 a0 7) ≤ 700 := zi_rd hIm188 hc0 zb_28_7
                have r190 : 0 ≤ (m188 a0 21) ∧ (m188 a0 21) ≤ 64 := zi_rd hIm188 hc0 zb_28_21
                have e191 : (m188 a0 21) = (m0 a0 21) := (Eq.trans (zs_ne hmm188 (Or.inr (by decide))) (Eq.trans (zs_ne hmm186 (Or.inr (by decide))) (zfr_ap hfm179 hc0 rfl)))
                have r192 : 0 ≤ (m188 a0 48) ∧ (m188 a0 48) ≤ 64 := zi_rd hIm188 hc0 zb_28_48
                have e193 : (m188 a0 48) = (m0 a0 48) := (Eq.trans (zs_ne hmm188 (Or.inr (by decide))) (Eq.trans (zs_ne hmm186 (Or.inr (by decide))) (zfr_ap hfm179 hc0 rfl)))
                exact zw_some ⟨hIm188, hFm188, hRKNm188, hRNSm188, hRWDm188, ⟨by omega, by omega⟩, by omega, by omega⟩
            · have r194 : (-2147483648) ≤ (m179 a0 9) ∧ (m179 a0 9) ≤ 2147483647 := zi_rd hIm179 hc0 zb_28_9
              refine zw_ite (fun h195 => ?_) (fun h195 => ?_)
              · refine zw_b (by omega) ?_
                refine zw_some ?_
                refine zw_ite (fun h196 => ?_) (fun h196 => ?_)
                · exfalso; omega
                · refine zw_bd (zw_eq (zu_call_at (zt_T n) (zm_85 n) (zdp_85 n) _ _ _ _ _ rfl (zr_85_0 n _ _ a0 1 m179)) ?_)
                  generalize hmm197 : zu_up m179 a0 4 1 = m197
                  have hIm197 := zi_up hmm197 hIm179 hc0 zb_28_4 (by omega) (by omega)
                  have hFm197 := zfr_up hmm197 hFm179 hc0 rfl
                  have hRKNm197 := zR_KN_fr (zdis_fr (zfr_up hmm197 (zfr_rf [(28, 5)] _) hc0 rfl) rfl) hRKNm179
                  have hRNSm197 := zR_NS_fr (zdis_fr (zfr_up hmm197 (zfr_rf [(28, 5)] _) hc0 rfl) rfl) hRNSm179
                  have hRWDm197 := zR_WD_fr (zdis_fr (zfr_up hmm197 (zfr_rf [(28, 5)] _) hc0 rfl) rfl) hRWDm179
                  have r198 : 0 ≤ (m197 a0 10) ∧ (m197 a0 10) ≤ 700 := zi_rd hIm197 hc0 zb_28_10
                  generalize hmm199 : zu_up m197 a0 5 (m197 a0 10) = m199
                  have hIm199 := zi_up hmm199 hIm197 hc0 zb_28_5 (by omega) (by omega)
                  have hFm199 := zfr_up hmm199 hFm197 hc0 rfl
                  have hRKNm199 := zR_KN_fr (zdis_fr (zfr_up hmm199 (zfr_rf [(28, 6)] _) hc0 rfl) rfl) hRKNm197
                  have hRNSm199 := zR_NS_fr (zdis_fr (zfr_up hmm199 (zfr_rf [(28, 6)] _) hc0 rfl) rfl) hRNSm197
                  have hRWDm199 := zR_WD_fr (zdis_fr (zfr_up hmm199 (zfr_rf [(28, 6)] _) hc0 rfl) rfl) hRWDm197
                  refine zw_b (by omega) ?_
                  refine zw_some ?_
                  refine zw_b (by omega) ?_
                  have r200 : 0 ≤ (m199 a0 7) ∧ (m199 a0 7) ≤ 700 := zi_rd hIm199 hc0 zb_28_7
                  have r201 : 0 ≤ (m199 a0 21) ∧ (m199 a0 21) ≤ 64 := zi_rd hIm199 hc0 zb_28_21
                  have e202 : (m199 a0 21) = (m0 a0 21) := (Eq.trans (zs_ne hmm199 (Or.inr (by decide))) (Eq.trans (zs_ne hmm197 (Or.inr (by decide))) (zfr_ap hfm179 hc0 rfl)))
                  have r203 : 0 ≤ (m199 a0 48) ∧ (m199 a0 48) ≤ 64 := zi_rd hIm199 hc0 zb_28_48
                  have e204 : (m199 a0 48) = (m0 a0 48) := (Eq.trans (zs_ne hmm199 (Or.inr (by decide))) (Eq.trans (zs_ne hmm197 (Or.inr (by decide))) (zfr_ap hfm179 hc0 rfl)))
                  exact zw_some ⟨hIm199, hFm199, hRKNm199, hRNSm199, hRWDm199, ⟨by omega, by omega⟩, by omega, by omega⟩
              · refine zw_b (by omega) ?_
                refine zw_some ?_
                refine zw_ite (fun h205 => ?_) (fun h205 => ?_)
                · refine zw_bd (zw_mono (zk_89 n hIm179 hc0 hRNSm179 hRWDm179) (fun v207 m206 hqm206 => ?_))
                  obtain ⟨hIm206, hfm206, hvm206⟩ := hqm206
                  have hFm206 := zfr_tr hFm179 hfm206 rfl
                  obtain ⟨hRNSm206, hRTRm206, hRWDm206, hvm206⟩ := hvm206
                  have hRKNm206 := zR_KN_fr (zdis_fr hfm206 rfl) hRKNm179
                  have s208 := hRNSm206 a0 hc0
                  have s209 := hRTRm206 a0 hc0
                  refine zw_b (by omega) ?_
                  have r210 : 0 ≤ (m206 a0 7) ∧ (m206 a0 7) ≤ 700 := zi_rd hIm206 hc0 zb_28_7
                  have r211 : 0 ≤ (m206 a0 21) ∧ (m206 a0 21) ≤ 64 := zi_rd hIm206 hc0 zb_28_21
                  have e212 : (m206 a0 21) = (m0 a0 21) := (Eq.trans (zfr_ap hfm206 hc0 rfl) (zfr_ap hfm179 hc0 rfl))
                  have r213 : 0 ≤ (m206 a0 48) ∧ (m206 a0 48) ≤ 64 := zi_rd hIm206 hc0 zb_28_48
                  have e214 : (m206 a0 48) = (m0 a0 48) := (Eq.trans (zfr_ap hfm206 hc0 rfl) (zfr_ap hfm179 hc0 rfl))
                  exact zw_some ⟨hIm206, hFm206, hRKNm206, hRNSm206, hRWDm206, ⟨by omega, by omega⟩, by omega, by omega⟩
                · exfalso; omega
          · refine zw_b (by omega) ?_
            have r215 : 0 ≤ (m179 a0 7) ∧ (m179 a0 7) ≤ 700 := zi_rd hIm179 hc0 zb_28_7
            have r216 : 0 ≤ (m179 a0 21) ∧ (m179 a0 21) ≤ 64 := zi_rd hIm179 hc0 zb_28_21
            have e217 : (m179 a0 21) = (m0 a0 21) := (zfr_ap hfm179 hc0 rfl)
            have r218 : 0 ≤ (m179 a0 48) ∧ (m179 a0 48) ≤ 64 := zi_rd hIm179 hc0 zb_28_48
            have e219 : (m179 a0 48) = (m0 a0 48) := (zfr_ap hfm179 hc0 rfl)
            exact zw_some ⟨hIm179, hFm179, hRKNm179, hRNSm179, hRWDm179, ⟨by omega, by omega⟩, by omega, by omega⟩
      · refine zw_bd (zw_mono (zk_99 n hIm0 hc0 hRNSm0 hRWDm0) (fun v221 m220 hqm220 => ?_))
        obtain ⟨hIm220, hfm220, hvm220⟩ := hqm220
        have hFm220 := zfr_tr hFm0 hfm220 rfl
        obtain ⟨hRNSm220, hRWDm220, hvm220⟩ := hvm220
        have hRKNm220 := zR_KN_fr (zdis_fr hfm220 rfl) hRKNm0
        have s222 := hRNSm220 a0 hc0
        refine zw_ite (fun h223 => ?_) (fun h223 => ?_)
        · refine zw_bd (zw_eq (zu_call_at (zt_T n) (zm_93 n) (zdp_93 n) _ _ _ _ _ rfl (zr_93_0 n _ _ a0 59 m220)) ?_)
          have r224 : 0 ≤ (m220 a0 8) ∧ (m220 a0 8) ≤ 6 := zi_rd hIm220 hc0 zb_28_8
          refine zw_ite (fun h225 => ?_) (fun h225 => ?_)
          · refine zw_b (by omega) ?_
            refine zw_some ?_
            refine zw_ite (fun h226 => ?_) (fun h226 => ?_)
            · exfalso; omega
            · refine zw_bd (zw_eq (zu_call_at (zt_T n) (zm_85 n) (zdp_85 n) _ _ _ _ _ rfl (zr_85_0 n _ _ a0 1 m220)) ?_)
              generalize hmm227 : zu_up m220 a0 4 1 = m227
              have hIm227 := zi_up hmm227 hIm220 hc0 zb_28_4 (by omega) (by omega)
              have hFm227 := zfr_up hmm227 hFm220 hc0 rfl
              have hRKNm227 := zR_KN_fr (zdis_fr (zfr_up hmm227 (zfr_rf [(28, 5)] _) hc0 rfl) rfl) hRKNm220
              have hRNSm227 := zR_NS_fr (zdis_fr (zfr_up hmm227 (zfr_rf [(28, 5)] _) hc0 rfl) rfl) hRNSm220
              have hRWDm227 := zR_WD_fr (zdis_fr (zfr_up hmm227 (zfr_rf [(28, 5)] _) hc0 rfl) rfl) hRWDm220
              have r228 : 0 ≤ (m227 a0 10) ∧ (m227 a0 10) ≤ 700 := zi_rd hIm227 hc0 zb_28_10
              generalize hmm229 : zu_up m227 a0 5 (m227 a0 10) = m229
              have hIm229 := zi_up hmm229 hIm227 hc0 zb_28_5 (by omega) (by omega)
              have hFm229 := zfr_up hmm229 hFm227 hc0 rfl
              have hRKNm229 := zR_KN_fr (zdis_fr (zfr_up hmm229 (zfr_rf [(28, 6)] _) hc0 rfl) rfl) hRKNm227
              have hRNSm229 := zR_NS_fr (zdis_fr (zfr_up hmm229 (zfr_rf [(28, 6)] _) hc0 rfl) rfl) hRNSm227
              have hRWDm229 := zR_WD_fr (zdis_fr (zfr_up hmm229 (zfr_rf [(28, 6)] _) hc0 rfl) rfl) hRWDm227
              refine zw_b (by omega) ?_
              refine zw_some ?_
              refine zw_b (by omega) ?_
              have r230 : 0 ≤ (m229 a0 7) ∧ (m229 a0 7) ≤ 700 := zi_rd hIm229 hc0 zb_28_7
              have r231 : 0 ≤ (m229 a0 21) ∧ (m229 a0 21) ≤ 64 := zi_rd hIm229 hc0 zb_28_21
              have e232 : (m229 a0 21) = (m0 a0 21) := (Eq.trans (zs_ne hmm229 (Or.inr (by decide))) (Eq.trans (zs_ne hmm227 (Or.inr (by decide))) (zfr_ap hfm220 hc0 rfl)))
              have r233 : 0 ≤ (m229 a0 48) ∧ (m229 a0 48) ≤ 64 := zi_rd hIm229 hc0 zb_28_48
              have e234 : (m229 a0 48) = (m0 a0 48) := (Eq.trans (zs_ne hmm229 (Or.inr (by decide))) (Eq.trans (zs_ne hmm227 (Or.inr (by decide))) (zfr_ap hfm220 hc0 rfl)))
              exact zw_some ⟨hIm229, hFm229, hRKNm229, hRNSm229, hRWDm229, ⟨by omega, by omega⟩, by omega, by omega⟩
          · have r235 : (-2147483648) ≤ (m220 a0 9) ∧ (m220 a0 9) ≤ 2147483647 := zi_rd hIm220 hc0 zb_28_9
            refine zw_ite (fun h236 => ?_) (fun h236 => ?_)
            · refine zw_b (by omega) ?_
              refine zw_some ?_
              refine zw_ite (fun h237 => ?_) (fun h237 => ?_)
              · exfalso; omega
              · refine zw_bd (zw_eq (zu_call_at (zt_T n) (zm_85 n) (zdp_85 n) _ _ _ _ _ rfl (zr_85_0 n _ _ a0 1 m220)) ?_)
                generalize hmm238 : zu_up m220 a0 4 1 = m238
                have hIm238 := zi_up hmm238 hIm220 hc0 zb_28_4 (by omega) (by omega)
                have hFm238 := zfr_up hmm238 hFm220 hc0 rfl
                have hRKNm238 := zR_KN_fr (zdis_fr (zfr_up hmm238 (zfr_rf [(28, 5)] _) hc0 rfl) rfl) hRKNm220
                have hRNSm238 := zR_NS_fr (zdis_fr (zfr_up hmm238 (zfr_rf [(28, 5)] _) hc0 rfl) rfl) hRNSm220
                have hRWDm238 := zR_WD_fr (zdis_fr (zfr_up hmm238 (zfr_rf [(28, 5)] _) hc0 rfl) rfl) hRWDm220
                have r239 : 0 ≤ (m238 a0 10) ∧ (m238 a0 10) ≤ 700 := zi_rd hIm238 hc0 zb_28_10
                generalize hmm240 : zu_up m238 a0 5 (m238 a0 10) = m240
                have hIm240 := zi_up hmm240 hIm238 hc0 zb_28_5 (by omega) (by omega)
                have hFm240 := zfr_up hmm240 hFm238 hc0 rfl
                have hRKNm240 := zR_KN_fr (zdis_fr (zfr_up hmm240 (zfr_rf [(28, 6)] _) hc0 rfl) rfl) hRKNm238
                have hRNSm240 := zR_NS_fr (zdis_fr (zfr_up hmm240 (zfr_rf [(28, 6)] _) hc0 rfl) rfl) hRNSm238
                have hRWDm240 := zR_WD_fr (zdis_fr (zfr_up hmm240 (zfr_rf [(28, 6)] _) hc0 rfl) rfl) hRWDm238
                refine zw_b (by omega) ?_
                refine zw_some ?_
                refine zw_b (by omega) ?_
                have r241 : 0 ≤ (m240 a0 7) ∧ (m240 a0 7) ≤ 700 := zi_rd hIm240 hc0 zb_28_7
                have r242 : 0 ≤ (m240 a0 21) ∧ (m240 a0 21) ≤ 64 := zi_rd hIm240 hc0 zb_28_21
                have e243 : (m240 a0 21) = (m0 a0 21) := (Eq.trans (zs_ne hmm240 (Or.inr (by decide))) (Eq.trans (zs_ne hmm238 (Or.inr (by decide))) (zfr_ap hfm220 hc0 rfl)))
                have r244 : 0 ≤ (m240 a0 48) ∧ (m240 a0 48) ≤ 64 := zi_rd hIm240 hc0 zb_28_48
                have e245 : (m240 a0 48) = (m0 a0 48) := (Eq.trans (zs_ne hmm240 (Or.inr (by decide))) (Eq.trans (zs_ne hmm238 (Or.inr (by decide))) (zfr_ap hfm220 hc0 rfl)))
                exact zw_some ⟨hIm240, hFm240, hRKNm240, hRNSm240, hRWDm240, ⟨by omega, by omega⟩, by omega, by omega⟩
            · refine zw_b (by omega) ?_
              refine zw_some ?_
              refine zw_ite (fun h246 => ?_) (fun h246 => ?_)
              · refine zw_bd (zw_mono (zk_89 n hIm220 hc0 hRNSm220 hRWDm220) (fun v248 m247 hqm247 => ?_))
                obtain ⟨hIm247, hfm247, hvm247⟩ := hqm247
                have hFm247 := zfr_tr hFm220 hfm247 rfl
                obtain ⟨hRNSm247, hRTRm247, hRWDm247, hvm247⟩ := hvm247
                have hRKNm247 := zR_KN_fr (zdis_fr hfm247 rfl) hRKNm220
                have s249 := hRNSm247 a0 hc0
                have s250 := hRTRm247 a0 hc0
                refine zw_b (by omega) ?_
                have r251 : 0 ≤ (m247 a0 7) ∧ (m247 a0 7) ≤ 700 := zi_rd hIm247 hc0 zb_28_7
                have r252 : 0 ≤ (m247 a0 21) ∧ (m247 a0 21) ≤ 64 := zi_rd hIm247 hc0 zb_28_21
                have e253 : (m247 a0 21) = (m0 a0 21) := (Eq.trans (zfr_ap hfm247 hc0 rfl) (zfr_ap hfm220 hc0 rfl))
                have r254 : 0 ≤ (m247 a0 48) ∧ (m247 a0 48) ≤ 64 := zi_rd hIm247 hc0 zb_28_48
                have e255 : (m247 a0 48) = (m0 a0 48) := (Eq.trans (zfr_ap hfm247 hc0 rfl) (zfr_ap hfm220 hc0 rfl))
                exact zw_some ⟨hIm247, hFm247, hRKNm247, hRNSm247, hRWDm247, ⟨by omega, by omega⟩, by omega, by omega⟩
              · exfalso; omega
        · refine zw_b (by omega) ?_
          have r256 : 0 ≤ (m220 a0 7) ∧ (m220 a0 7) ≤ 700 := zi_rd hIm220 hc0 zb_28_7
          have r257 : 0 ≤ (m220 a0 21) ∧ (m220 a0 21) ≤ 64 := zi_rd hIm220 hc0 zb_28_21
          have e258 : (m220 a0 21) = (m0 a0 21) := (zfr_ap hfm220 hc0 rfl)
          have r259 : 0 ≤ (m220 a0 48) ∧ (m220 a0 48) ≤ 64 := zi_rd hIm220 hc0 zb_28_48
          have e260 : (m220 a0 48) = (m0 a0 48) := (zfr_ap hfm220 hc0 rfl)
          exact zw_some ⟨hIm220, hFm220, hRKNm220, hRNSm220, hRWDm220, ⟨by omega, by omega⟩, by omega, by omega⟩
    · refine zw_bd (zw_eq (zu_call_at (zt_T n) (zm_85 n) (zdp_85 n) _ _ _ _ _ rfl (zr_85_0 n _ _ a0 1 m0)) ?_)
      generalize hmm261 : zu_up m0 a0 4 1 = m261
      have hIm261 := zi_up hmm261 hIm0 hc0 zb_28_4 (by omega) (by omega)
      have hFm261 := zfr_up hmm261 hFm0 hc0 rfl
      have hRKNm261 := zR_KN_fr (zdis_fr (zfr_up hmm261 (zfr_rf [(28, 5)] _) hc0 rfl) rfl) hRKNm0
      have hRNSm261 := zR_NS_fr (zdis_fr (zfr_up hmm261 (zfr_rf [(28, 5)] _) hc0 rfl) rfl) hRNSm0
      have hRWDm261 := zR_WD_fr (zdis_fr (zfr_up hmm261 (zfr_rf [(28, 5)] _) hc0 rfl) rfl) hRWDm0
      have r262 : 0 ≤ (m261 a0 10) ∧ (m261 a0 10) ≤ 700 := zi_rd hIm261 hc0 zb_28_10
      generalize hmm263 : zu_up m261 a0 5 (m261 a0 10) = m263
      have hIm263 := zi_up hmm263 hIm261 hc0 zb_28_5 (by omega) (by omega)
      have hFm263 := zfr_up hmm263 hFm261 hc0 rfl
      have hRKNm263 := zR_KN_fr (zdis_fr (zfr_up hmm263 (zfr_rf [(28, 6)] _) hc0 rfl) rfl) hRKNm261
      have hRNSm263 := zR_NS_fr (zdis_fr (zfr_up hmm263 (zfr_rf [(28, 6)] _) hc0 rfl) rfl) hRNSm261
      have hRWDm263 := zR_WD_fr (zdis_fr (zfr_up hmm263 (zfr_rf [(28, 6)] _) hc0 rfl) rfl) hRWDm261
      refine zw_b (by omega) ?_
      refine zw_some ?_
      refine zw_b (by omega) ?_
      have r264 : 0 ≤ (m263 a0 7) ∧ (m263 a0 7) ≤ 700 := zi_rd hIm263 hc0 zb_28_7
      have r265 : 0 ≤ (m263 a0 21) ∧ (m263 a0 21) ≤ 64 := zi_rd hIm263 hc0 zb_28_21
      have e266 : (m263 a0 21) = (m0 a0 21) := (Eq.trans (zs_ne hmm263 (Or.inr (by decide))) (zs_ne hmm261 (Or.inr (by decide))))
      have r267 : 0 ≤ (m263 a0 48) ∧ (m263 a0 48) ≤ 64 := zi_rd hIm263 hc0 zb_28_48
      have e268 : (m263 a0 48) = (m0 a0 48) := (Eq.trans (zs_ne hmm263 (Or.inr (by decide))) (zs_ne hmm261 (Or.inr (by decide))))
      exact zw_some ⟨hIm263, hFm263, hRKNm263, hRNSm263, hRWDm263, ⟨by omega, by omega⟩, by omega, by omega⟩
set_option maxHeartbeats 4000000 in
theorem zk_131 (n : Nat) {a0 a1 a2 a3 : Int} {m0 : zu_m} (hIm0 : zi_I m0) (hc0 : zcls a0 = 28) (ha1 : 0 ≤ a1 ∧ a1 ≤ 1) (ha2 : 0 ≤ a2 ∧ a2 ≤ 3) (ha3 : 0 ≤ a3 ∧ a3 ≤ 17)    (hRKNm0 : zR_KN m0) : zw (zu_call (zt_T n) 131 [(40, a0), (0, a1), (0, a2), (0, a3)] m0) (fun v m => zi_I m ∧ zfr [(28, 54), (122, 0), (123, 0)] m0 m ∧ zR_KN m ∧ ((-2147483648) ≤ v ∧ v ≤ 2147483647)) := by
  have hFm0 : zfr [(28, 54), (122, 0), (123, 0)] m0 m0 := zfr_rf _ _
  refine zw_eq (zu_call_at (zt_T n) (zm_131 n) (zdp_131 n) _ _ _ _ _ rfl (zr_131_0 n _ _ a0 a1 a2 a3 m0)) ?_
  have b1 : 0 ≤ a3 ∧ a3 < 36 := by omega
  refine zw_if b1 ?_
  have r2 : 0 ≤ (m0 198 a3) ∧ (m0 198 a3) ≤ 3 := zi_rd hIm0 zq_198 (zb_107 _)
  have b3 : 0 ≤ a3 ∧ a3 < 36 := by omega
  refine zw_if b3 ?_
  have r4 : 0 ≤ (m0 199 a3) ∧ (m0 199 a3) ≤ 9 := zi_rd hIm0 zq_199 (zb_108 _)
  have b5 : 0 ≤ a3 ∧ a3 < 36 := by omega
  refine zw_if b5 ?_
  have r6 : 0 ≤ (m0 197 a3) ∧ (m0 197 a3) ≤ 47 := zi_rd hIm0 zq_197 (zb_106 _)
  refine zw_bd (zw_mono (zk_130 n hIm0 hc0 ⟨by omega, by omega⟩ ⟨by omega, by omega⟩) (fun v8 m7 hqm7 => ?_))
  obtain ⟨hIm7, hfm7, hvm7⟩ := hqm7
  have hFm7 := zfr_tr hFm0 hfm7 rfl
  have hRKNm7 := zR_KN_fr (zdis_fr hfm7 rfl) hRKNm0
  refine zw_bd (zw_mono (zk_129 n hIm7 hc0 ⟨by omega, by omega⟩ ⟨by omega, by omega⟩ ⟨by omega, by omega⟩ ⟨by omega, by omega⟩ ⟨by omega, by omega⟩ hRKNm7) (fun v10 m9 hqm9 => ?_))
  obtain ⟨hIm9, hfm9, hvm9⟩ := hqm9
  have hFm9 := zfr_tr hFm7 hfm9 rfl
  obtain ⟨hRKNm9, hvm9⟩ := hvm9
  exact zw_some ⟨hIm9, hFm9, hRKNm9, ⟨by omega, by omega⟩⟩
set_option maxHeartbeats 4000000 in
theorem zk_138 (n : Nat) {a0 a1 a2 a3 : Int} {m0 : zu_m} (hIm0 : zi_I m0) (hc0 : zcls a0 = 28) (ha1 : 0 ≤ a1 ∧ a1 ≤ 3) (ha2 : 0 ≤ a2 ∧ a2 ≤ 47) (ha3 : (-2147483648) ≤ a3 ∧ a3 ≤ 2147483647)    (hRKNm0 : zR_KN m0) : zw (zu_call (zt_T n) 138 [(40, a0), (0, a1), (0, a2), (0, a3)] m0) (fun v m => zi_I m ∧ zfr [(28, 54), (122, 0), (123, 0)] m0 m ∧ zR_KN m ∧ ((-2147483648) ≤ v ∧ v ≤ 2147483647)) := by
  have hFm0 : zfr [(28, 54), (122, 0), (123, 0)] m0 m0 := zfr_rf _ _
  refine zw_eq (zu_call_at (zt_T n) (zm_138 n) (zdp_138 n) _ _ _ _ _ rfl (zr_138_0 n _ _ a0 a1 a2 a3 m0)) ?_
  refine zw_bd (zw_mono (zk_129 n hIm0 hc0 ⟨by omega, by omega⟩ ⟨by omega, by omega⟩ ⟨by omega, by omega⟩ ⟨by omega, by omega⟩ ⟨by omega, by omega⟩ hRKNm0) (fun v2 m1 hqm1 => ?_))
  obtain ⟨hIm1, hfm1, hvm1⟩ := hqm1
  have hFm1 := zfr_tr hFm0 hfm1 rfl
  obtain ⟨hRKNm1, hvm1⟩ := hvm1
  have w3 := zu_w32_rg (100 - v2)
  have w4 := zu_w64_rg (a3 * (zu_w32 (100 - v2)))
  refine zw_nif (by omega) ?_
  have w5 := zu_w64_rg (Int.tdiv (zu_w64 (a3 * (zu_w32 (100 - v2)))) 100)
  have w6 := zu_w32_rg (zu_w64 (Int.tdiv (zu_w64 (a3 * (zu_w32 (100 - v2)))) 100))
  exact zw_some ⟨hIm1, hFm1, hRKNm1, ⟨by omega, by omega⟩⟩
set_option maxHeartbeats 4000000 in
theorem zl_145 (n : Nat) {a0 a1 a2 : Int} {m0 : zu_m} (hc0 : zcls a0 = 28)   : ∀ k : Nat, (∀ (x3 x4 : Int) (mh : zu_m), zi_I mh → zfr [(28, 3), (28, 54), (122, 0), (123, 0)] m0 mh → (0 ≤ a1 ∧ a1 ≤ 3) → (2 ≤ a2 ∧ a2 ≤ 2) → ((-2147483648) ≤ x3 ∧ x3 ≤ 2147483647) → (0 ≤ x4 ∧ x4 ≤ 16) → (1 ≤ mh a0 15 ∧ mh a0 15 ≤ 4) → (0 ≤ mh a0 2 ∧ mh a0 2 ≤ 0) → (zR_KN mh) → (16 - x4) * 1 + 17 < (k : Int) → zw (zu_ex (zt_T n) 145 69 [(40, a0), (0, a1), (0, a2), (0, x3), (0, x4)] [] mh) (fun v m => zi_I m ∧ zfr [(28, 3), (28, 54), (122, 0), (123, 0)] m0 m ∧ zR_KN m ∧ ((-2147483648) ≤ v ∧ v ≤ 2147483647) ∧ (0 ≤ m a0 2 ∧ m a0 2 ≤ 0))) ∧ (∀ (x3 x4 : Int) (mh : zu_m), zi_I mh → zfr [(28, 3), (28, 54), (122, 0), (123, 0)] m0 mh → (0 ≤ a1 ∧ a1 ≤ 3) → (4 ≤ a2 ∧ a2 ≤ 4) → ((-2147483648) ≤ x3 ∧ x3 ≤ 2147483647) → (0 ≤ x4 ∧ x4 ≤ 16) → (1 ≤ mh a0 15 ∧ mh a0 15 ≤ 4) → (0 ≤ mh a0 2 ∧ mh a0 2 ≤ 0) → (zR_KN mh) → (16 - x4) * 1 + 0 < (k : Int) → zw (zu_ex (zt_T n) 145 120 [(40, a0), (0, a1), (0, a2), (0, x3), (0, x4)] [] mh) (fun v m => zi_I m ∧ zfr [(28, 3), (28, 54), (122, 0), (123, 0)] m0 m ∧ zR_KN m ∧ ((-2147483648) ≤ v ∧ v ≤ 2147483647) ∧ (0 ≤ m a0 2 ∧ m a0 2 ≤ 0))) := by
  intro k
  induction k with
  | zero => exact ⟨fun x3 x4 mh hImh hFmh hba1 hba2 hbx3 hbx4 hg4 hg5 hRKNmh hM => by exfalso; omega, fun x3 x4 mh hImh hFmh hba1 hba2 hbx3 hbx4 hg4 hg5 hRKNmh hM => by exfalso; omega⟩
  | succ k ih =>
    refine ⟨?_, ?_⟩
    · intro x3 x4 mh hImh hFmh hba1 hba2 hbx3 hbx4 hg4 hg5 hRKNmh hM
      refine zw_eq (zu_rega_at (zt_T n) (zm_145 n) (zdp_145 n) _ _ _ _ _ _ (zr_145_69 n _ _ a0 a1 a2 x3 x4 mh)) ?_
      have b1 : 0 ≤ (0 : Int) ∧ (0 : Int) < 2 := by omega
      refine zw_if b1 ?_
      have r2 : 0 ≤ (mh 216 0) ∧ (mh 216 0) ≤ 16 := zi_rdr (m := 2) (r0 := 0) (r1 := 0) hImh zq_216 (by omega) (by decide +kernel)
      refine zw_ite (fun h3 => ?_) (fun h3 => ?_)
      · exact zw_some ⟨hImh, hFmh, hRKNmh, ⟨by omega, by omega⟩, ⟨by omega, by omega⟩⟩
      · have b4 : 0 ≤ x4 ∧ x4 < 36 := by omega
        refine zw_if b4 ?_
        have r5 : (-3) ≤ (mh 215 x4) ∧ (mh 215 x4) ≤ 3 := zi_rd hImh zq_215 (zb_124 _)
        refine zw_ite (fun h6 => ?_) (fun h6 => ?_)
        · have b7 := zu_i32_rg 4 x3 0
          have w8 := zu_w32_id (z := x4 + 1) (by omega) (by omega)
          have hM : (16 - (zu_w32 (x4 + 1))) * 1 + 17 < (k : Int) := by omega
          exact ih.1 (zu_i32 4 x3 0) (zu_w32 (x4 + 1)) mh hImh hFmh ⟨by omega, by omega⟩ ⟨by omega, by omega⟩ ⟨by omega, by omega⟩ ⟨by omega, by omega⟩ ⟨by omega, by omega⟩ ⟨by omega, by omega⟩ hRKNmh hM
        · have b9 := zu_i32_rg 5 1 x4
          have b10 := zu_i32_rg 4 x3 (zu_i32 5 1 x4)
          have w11 := zu_w32_id (z := x4 + 1) (by omega) (by omega)
          have hM : (16 - (zu_w32 (x4 + 1))) * 1 + 17 < (k : Int) := by omega
          exact ih.1 (zu_i32 4 x3 (zu_i32 5 1 x4)) (zu_w32 (x4 + 1)) mh hImh hFmh ⟨by omega, by omega⟩ ⟨by omega, by omega⟩ ⟨by omega, by omega⟩ ⟨by omega, by omega⟩ ⟨by omega, by omega⟩ ⟨by omega, by omega⟩ hRKNmh hM
    · intro x3 x4 mh hImh hFmh hba1 hba2 hbx3 hbx4 hg4 hg5 hRKNmh hM
      refine zw_eq (zu_rega_at (zt_T n) (zm_145 n) (zdp_145 n) _ _ _ _ _ _ (zr_145_120 n _ _ a0 a1 a2 x3 x4 mh)) ?_
      have b12 : 0 ≤ (0 : Int) ∧ (0 : Int) < 2 := by omega
      refine zw_if b12 ?_
      have r13 : 0 ≤ (mh 216 0) ∧ (mh 216 0) ≤ 16 := zi_rdr (m := 2) (r0 := 0) (r1 := 0) hImh zq_216 (by omega) (by decide +kernel)
      refine zw_ite (fun h14 => ?_) (fun h14 => ?_)
      · exact zw_some ⟨hImh, hFmh, hRKNmh, ⟨by omega, by omega⟩, ⟨by omega, by omega⟩⟩
      · have b15 : 0 ≤ x4 ∧ x4 < 36 := by omega
        refine zw_if b15 ?_
        have r16 : (-3) ≤ (mh 215 x4) ∧ (mh 215 x4) ≤ 3 := zi_rd hImh zq_215 (zb_124 _)
        refine zw_ite (fun h17 => ?_) (fun h17 => ?_)
        · have w18 := zu_w32_id (z := x3 + 0) (by omega) (by omega)
          have w19 := zu_w32_id (z := x4 + 1) (by omega) (by omega)
          have hM : (16 - (zu_w32 (x4 + 1))) * 1 + 0 < (k : Int) := by omega
          exact ih.2 (zu_w32 (x3 + 0)) (zu_w32 (x4 + 1)) mh hImh hFmh ⟨by omega, by omega⟩ ⟨by omega, by omega⟩ ⟨by omega, by omega⟩ ⟨by omega, by omega⟩ ⟨by omega, by omega⟩ ⟨by omega, by omega⟩ hRKNmh hM
        · refine zw_bd (zw_mono (zk_132 n hImh hc0 ⟨by omega, by omega⟩ ⟨by omega, by omega⟩ hRKNmh) (fun v21 m20 hqm20 => ?_))
          obtain ⟨hIm20, hfm20, hvm20⟩ := hqm20
          have hFm20 := zfr_tr hFmh hfm20 rfl
          obtain ⟨hRKNm20, hvm20⟩ := hvm20
          have w22 := zu_w32_rg (x3 + v21)
          have w23 := zu_w32_id (z := x4 + 1) (by omega) (by omega)
          have r24 : (-2147483648) ≤ (m20 a0 2) ∧ (m20 a0 2) ≤ 2147483647 := zi_rd hIm20 hc0 zb_28_2
          have e25 : (m20 a0 2) = (mh a0 2) := (zfr_ap hfm20 hc0 rfl)
          have r26 : 0 ≤ (m20 a0 15) ∧ (m20 a0 15) ≤ 4 := zi_rd hIm20 hc0 zb_28_15
          have e27 : (m20 a0 15) = (mh a0 15) := (zfr_ap hfm20 hc0 rfl)
          have hM : (16 - (zu_w32 (x4 + 1))) * 1 + 0 < (k : Int) := by omega
          exact ih.2 (zu_w32 (x3 + v21)) (zu_w32 (x4 + 1)) m20 hIm20 hFm20 ⟨by omega, by omega⟩ ⟨by omega, by omega⟩ ⟨by omega, by omega⟩ ⟨by omega, by omega⟩ ⟨by omega, by omega⟩ ⟨by omega, by omega⟩ hRKNm20 hM
set_option maxHeartbeats 4000000 in
theorem zk_145 (n : Nat) {a0 a1 a2 : Int} {m0 : zu_m} (hIm0 : zi_I m0) (hc0 : zcls a0 = 28) (ha1 : (-2147483648) ≤ a1 ∧ a1 ≤ 2147483647) (ha2 : (-2147483648) ≤ a2 ∧ a2 ≤ 2147483647)    (hRKNm0 : zR_KN m0) : zw (zu_call (zt_T n) 145 [(40, a0), (0, a1), (0, a2)] m0) (fun v m => zi_I m ∧ zfr [(28, 3), (28, 54), (122, 0), (123, 0)] m0 m ∧ zR_KN m ∧ ((-2147483648) ≤ v ∧ v ≤ 2147483647) ∧ (0 ≤ m a0 2 ∧ m a0 2 ≤ 0)) := by
  have hFm0 : zfr [(28, 3), (28, 54), (122, 0), (123, 0)] m0 m0 := zfr_rf _ _
  refine zw_eq (zu_call_at (zt_T n) (zm_145 n) (zdp_145 n) _ _ _ _ _ rfl (zr_145_0 n _ _ a0 a1 a2 m0)) ?_
  generalize hmm28 : zu_up m0 a0 2 0 = m28
  have hIm28 := zi_up hmm28 hIm0 hc0 zb_28_2 (by omega) (by omega)
  have hFm28 := zfr_up hmm28 hFm0 hc0 rfl
  have hRKNm28 := zR_KN_fr (zdis_fr (zfr_up hmm28 (zfr_rf [(28, 3)] _) hc0 rfl) rfl) hRKNm0
  refine zw_bd (zw_eq (zu_call_at (zt_T n) (zm_125 n) (zdp_125 n) _ _ _ _ _ rfl (zr_125_0 n _ _ a0 a1 m28)) ?_)
  refine zw_ite (fun h29 => ?_) (fun h29 => ?_)
  · refine zw_b (by omega) ?_
    refine zw_some ?_
    refine zw_ite (fun h30 => ?_) (fun h30 => ?_)
    · exfalso; omega
    · have r31 : (-2147483648) ≤ (m28 a0 2) ∧ (m28 a0 2) ≤ 2147483647 := zi_rd hIm28 hc0 zb_28_2
      have e32 : (m28 a0 2) = 0 := (zs_eq hmm28)
      exact zw_some ⟨hIm28, hFm28, hRKNm28, ⟨by omega, by omega⟩, ⟨by omega, by omega⟩⟩
  · have r33 : 0 ≤ (m28 a0 15) ∧ (m28 a0 15) ≤ 4 := zi_rd hIm28 hc0 zb_28_15
    refine zw_ite (fun h34 => ?_) (fun h34 => ?_)
    · refine zw_b (by omega) ?_
      refine zw_some ?_
      refine zw_ite (fun h35 => ?_) (fun h35 => ?_)
      · exfalso; omega
      · have r36 : (-2147483648) ≤ (m28 a0 2) ∧ (m28 a0 2) ≤ 2147483647 := zi_rd hIm28 hc0 zb_28_2
        have e37 : (m28 a0 2) = 0 := (zs_eq hmm28)
        exact zw_some ⟨hIm28, hFm28, hRKNm28, ⟨by omega, by omega⟩, ⟨by omega, by omega⟩⟩
    · refine zw_b (by omega) ?_
      refine zw_some ?_
      refine zw_ite (fun h38 => ?_) (fun h38 => ?_)
      · refine zw_ite (fun h39 => ?_) (fun h39 => ?_)
        · have b40 : 0 ≤ a1 ∧ a1 < 8 := by omega
          refine zw_if b40 ?_
          have r41 : 0 ≤ (m28 217 a1) ∧ (m28 217 a1) ≤ 47 := zi_rd hIm28 zq_217 (zb_126 _)
          have r42 : (-2147483648) ≤ (m28 a0 2) ∧ (m28 a0 2) ≤ 2147483647 := zi_rd hIm28 hc0 zb_28_2
          have e43 : (m28 a0 2) = 0 := (zs_eq hmm28)
          exact zw_some ⟨hIm28, hFm28, hRKNm28, ⟨by omega, by omega⟩, ⟨by omega, by omega⟩⟩
        · refine zw_ite (fun h44 => ?_) (fun h44 => ?_)
          · refine zw_bd (zw_mono (zk_130 n hIm28 hc0 ⟨by omega, by omega⟩ ⟨by omega, by omega⟩) (fun v46 m45 hqm45 => ?_))
            obtain ⟨hIm45, hfm45, hvm45⟩ := hqm45
            have hFm45 := zfr_tr hFm28 hfm45 rfl
            have hRKNm45 := zR_KN_fr (zdis_fr hfm45 rfl) hRKNm28
            have r47 : (-2147483648) ≤ (m45 a0 2) ∧ (m45 a0 2) ≤ 2147483647 := zi_rd hIm45 hc0 zb_28_2
            have e48 : (m45 a0 2) = 0 := (Eq.trans (zfr_ap hfm45 hc0 rfl) (zs_eq hmm28))
            exact zw_some ⟨hIm45, hFm45, hRKNm45, ⟨by omega, by omega⟩, ⟨by omega, by omega⟩⟩
          · refine zw_ite (fun h49 => ?_) (fun h49 => ?_)
            · have r50 : (-2147483648) ≤ (m28 a0 2) ∧ (m28 a0 2) ≤ 2147483647 := zi_rd hIm28 hc0 zb_28_2
              have e51 : (m28 a0 2) = 0 := (zs_eq hmm28)
              have hM : (16 - 0) * 1 + 17 < ((34 : Nat) : Int) := by omega
              exact (zl_145 n (m0 := m0) hc0 34).1 0 0 m28 hIm28 hFm28 ⟨by omega, by omega⟩ ⟨by omega, by omega⟩ ⟨by omega, by omega⟩ ⟨by omega, by omega⟩ ⟨by omega, by omega⟩ ⟨by omega, by omega⟩ hRKNm28 hM
            · refine zw_ite (fun h52 => ?_) (fun h52 => ?_)
              · have b53 : 0 ≤ a1 ∧ a1 < 4 := by omega
                refine zw_if b53 ?_
                have r54 : (-2147483648) ≤ (m28 219 a1) ∧ (m28 219 a1) ≤ 2147483647 := zi_rd hIm28 zq_219 (zb_128 _)
                have r55 : (-2147483648) ≤ (m28 a0 2) ∧ (m28 a0 2) ≤ 2147483647 := zi_rd hIm28 hc0 zb_28_2
                have e56 : (m28 a0 2) = 0 := (zs_eq hmm28)
                exact zw_some ⟨hIm28, hFm28, hRKNm28, ⟨by omega, by omega⟩, ⟨by omega, by omega⟩⟩
              · refine zw_ite (fun h57 => ?_) (fun h57 => ?_)
                · have r58 : (-2147483648) ≤ (m28 a0 2) ∧ (m28 a0 2) ≤ 2147483647 := zi_rd hIm28 hc0 zb_28_2
                  have e59 : (m28 a0 2) = 0 := (zs_eq hmm28)
                  have hM : (16 - 0) * 1 + 0 < ((34 : Nat) : Int) := by omega
                  exact (zl_145 n (m0 := m0) hc0 34).2 0 0 m28 hIm28 hFm28 ⟨by omega, by omega⟩ ⟨by omega, by omega⟩ ⟨by omega, by omega⟩ ⟨by omega, by omega⟩ ⟨by omega, by omega⟩ ⟨by omega, by omega⟩ hRKNm28 hM
                · have r60 : (-2147483648) ≤ (m28 a0 2) ∧ (m28 a0 2) ≤ 2147483647 := zi_rd hIm28 hc0 zb_28_2
                  have e61 : (m28 a0 2) = 0 := (zs_eq hmm28)
                  exact zw_some ⟨hIm28, hFm28, hRKNm28, ⟨by omega, by omega⟩, ⟨by omega, by omega⟩⟩
      · exfalso; omega
set_option maxHeartbeats 4000000 in
theorem zl_172 (n : Nat) {a0 a1 : Int} {m0 : zu_m} (hc0 : zcls a0 = 28)   : ∀ k : Nat, (∀ (x2 x4 x6 : Int) (mh : zu_m), zi_I mh → zfr [(28, 3), (28, 54), (122, 0), (123, 0)] m0 mh → ((-2147483648) ≤ a1 ∧ a1 ≤ 2147483647) → (0 ≤ x2 ∧ x2 ≤ 47952) → (0 ≤ x4 ∧ x4 ≤ 47904048) → (0 ≤ x6 ∧ x6 ≤ 48) → (0 ≤ mh a0 2 ∧ mh a0 2 ≤ 0) → (x2 ≤ 999 * x6) → (x4 ≤ 998001 * x6) → (zR_KN mh) → (48 - x6) * 1 + 9223372036854775808 < (k : Int) → zw (zu_ex (zt_T n) 172 13 [(40, a0), (0, a1), (1, x2), (2, 0), (1, x4), (2, 0), (0, x6), (2, 0), (2, 0), (2, 0), (2, 0), (2, 0)] [] mh) (fun v m => zi_I m ∧ zfr [(28, 3), (28, 54), (122, 0), (123, 0)] m0 m ∧ zR_KN m ∧ ((-9223372036854775808) ≤ v ∧ v ≤ 9223372036854775807) ∧ (0 ≤ m a0 2 ∧ m a0 2 ≤ 0))) ∧ (∀ (x2 x4 x6 x8 : Int) (mh : zu_m), zi_I mh → zfr [(28, 3), (28, 54), (122, 0), (123, 0)] m0 mh → (0 ≤ a1 ∧ a1 ≤ 1) → (1 ≤ x2 ∧ x2 ≤ 47952) → (0 ≤ x4 ∧ x4 ≤ 47904048) → (0 ≤ x6 ∧ x6 ≤ 9223372036854775807) → (0 ≤ x8 ∧ x8 ≤ 2299394304) → (0 ≤ mh a0 2 ∧ mh a0 2 ≤ 0) → (x8 ≠ 0 ∨ x6 ≠ 0) → (zR_KN mh) → x8 * 1 + 0 < (k : Int) → zw (zu_ex (zt_T n) 172 80 [(40, a0), (0, a1), (1, x2), (2, 0), (1, x4), (2, 0), (1, x6), (2, 0), (1, x8), (2, 0), (2, 0), (2, 0)] [] mh) (fun v m => zi_I m ∧ zfr [(28, 3), (28, 54), (122, 0), (123, 0)] m0 m ∧ zR_KN m ∧ ((-9223372036854775808) ≤ v ∧ v ≤ 9223372036854775807) ∧ (0 ≤ m a0 2 ∧ m a0 2 ≤ 0))) := by
  intro k
  induction k with
  | zero => exact ⟨fun x2 x4 x6 mh hImh hFmh hba1 hbx2 hbx4 hbx6 hg4 hH0 hH1 hRKNmh hM => by exfalso; omega, fun x2 x4 x6 x8 mh hImh hFmh hba1 hbx2 hbx4 hbx6 hbx8 hg5 hH0 hRKNmh hM => by exfalso; omega⟩
  | succ k ih =>
    refine ⟨?_, ?_⟩
    · intro x2 x4 x6 mh hImh hFmh hba1 hbx2 hbx4 hbx6 hg4 hH0 hH1 hRKNmh hM
      refine zw_eq (zu_rega_at (zt_T n) (zm_172 n) (zdp_172 n) _ _ _ _ _ _ (zr_172_13 n _ _ a0 a1 x2 x4 x6 mh)) ?_
      refine zw_bd (zw_eq (zu_call_at (zt_T n) (zm_36 n) (zdp_36 n) _ _ _ _ _ rfl (zr_36_0 n _ _ a0 mh)) ?_)
      have r1 : 1 ≤ (mh a0 12) ∧ (mh a0 12) ≤ 8 := zi_rd hImh hc0 zb_28_12
      have r2 : 1 ≤ (mh a0 13) ∧ (mh a0 13) ≤ 6 := zi_rd hImh hc0 zb_28_13
      have p3 := zmul_bd (x := (mh a0 12)) (y := (mh a0 13)) (a := 1) (b := 1) (A := 8) (B := 6) (by omega) (by omega) (by omega) (by omega) (by omega) (by omega)
      have w4 := zu_w32_id (z := (mh a0 12) * (mh a0 13)) (by omega) (by omega)
      refine zw_some ?_
      refine zw_ite (fun h5 => ?_) (fun h5 => ?_)
      · refine zw_bd (zw_eq (zu_call_at (zt_T n) (zm_83 n) (zdp_83 n) _ _ _ _ _ rfl (zr_83_0 n _ _ a1 0 1 mh)) ?_)
        refine zw_ite (fun h6 => ?_) (fun h6 => ?_)
        · refine zw_b (by omega) ?_
          refine zw_some ?_
          refine zw_ite (fun h7 => ?_) (fun h7 => ?_)
          · exact zw_some ⟨hImh, hFmh, hRKNmh, ⟨by omega, by omega⟩, ⟨by omega, by omega⟩⟩
          · exfalso; omega
        · refine zw_ite (fun h8 => ?_) (fun h8 => ?_)
          · refine zw_b (by omega) ?_
            refine zw_some ?_
            refine zw_ite (fun h9 => ?_) (fun h9 => ?_)
            · exact zw_some ⟨hImh, hFmh, hRKNmh, ⟨by omega, by omega⟩, ⟨by omega, by omega⟩⟩
            · exfalso; omega
          · refine zw_b (by omega) ?_
            refine zw_some ?_
            refine zw_ite (fun h10 => ?_) (fun h10 => ?_)
            · exfalso; omega
            · have c11 := zu_lcmp_sp x2 0
              refine zw_ite (fun h12 => ?_) (fun h12 => ?_)
              · have p13 := zmul_bd (x := x2) (y := x2) (a := 1) (b := 1) (A := 47952) (B := 47952) (by omega) (by omega) (by omega) (by omega) (by omega) (by omega)
                have w14 := zu_w64_id (z := x2 * x2) (by omega) (by omega)
                have hM : (zu_w64 (x2 * x2)) * 1 + 0 < (k : Int) := by omega
                exact ih.2 x2 x4 x4 (zu_w64 (x2 * x2)) mh hImh hFmh ⟨by omega, by omega⟩ ⟨by omega, by omega⟩ ⟨by omega, by omega⟩ ⟨by omega, by omega⟩ ⟨by omega, by omega⟩ ⟨by omega, by omega⟩ (by omega) hRKNmh hM
              · exact zw_some ⟨hImh, hFmh, hRKNmh, ⟨by omega, by omega⟩, ⟨by omega, by omega⟩⟩
      · refine zw_bd (zw_mono (zk_37 n hImh hc0 ⟨by omega, by omega⟩ hRKNmh) (fun v16 m15 hqm15 => ?_))
        obtain ⟨hIm15, hfm15, hvm15⟩ := hqm15
        have hFm15 := zfr_tr hFmh hfm15 rfl
        obtain ⟨hRKNm15, hvm15⟩ := hvm15
        have w17 := zu_w64_id (z := x2 + v16) (by omega) (by omega)
        have w18 := zu_w64_rg (v16 * v16)
        have w19 := zu_w64_rg (x4 + (zu_w64 (v16 * v16)))
        have w20 := zu_w32_id (z := x6 + 1) (by omega) (by omega)
        have r21 : (-2147483648) ≤ (m15 a0 2) ∧ (m15 a0 2) ≤ 2147483647 := zi_rd hIm15 hc0 zb_28_2
        have e22 : (m15 a0 2) = (mh a0 2) := (zfr_ap hfm15 hc0 rfl)
        have hM : (48 - (zu_w32 (x6 + 1))) * 1 + 9223372036854775808 < (k : Int) := by omega
        exact zw_le (zu_forget (zu_lr_same (zu_lr_same (zu_lr_same (zu_lr_same (zu_lr_same (zu_lr_same (zu_lr_same (zu_lr_drop (zu_lr_same (zu_lr_same (zu_lr_same (zu_lr_same zu_lr_nil))))))))))))) (ih.1 (zu_w64 (x2 + v16)) (zu_w64 (x4 + (zu_w64 (v16 * v16)))) (zu_w32 (x6 + 1)) m15 hIm15 hFm15 ⟨by omega, by omega⟩ ⟨by omega, by omega⟩ ⟨by omega, by omega⟩ ⟨by omega, by omega⟩ ⟨by omega, by omega⟩ (by omega) (by omega) hRKNm15 hM)
    · intro x2 x4 x6 x8 mh hImh hFmh hba1 hbx2 hbx4 hbx6 hbx8 hg5 hH0 hRKNmh hM
      refine zw_eq (zu_rega_at (zt_T n) (zm_172 n) (zdp_172 n) _ _ _ _ _ _ (zr_172_80 n _ _ a0 a1 x2 x4 x6 x8 mh)) ?_
      have c23 := zu_lcmp_sp x8 0
      refine zw_ite (fun h24 => ?_) (fun h24 => ?_)
      · refine zw_ite (fun h25 => ?_) (fun h25 => ?_)
        · have p26 := zmul_bd (x := x2) (y := x2) (a := 1) (b := 1) (A := 47952) (B := 47952) (by omega) (by omega) (by omega) (by omega) (by omega) (by omega)
          have w27 := zu_w64_id (z := x2 * x2) (by omega) (by omega)
          refine zw_nif (by omega) ?_
          have w28 := zu_w64_rg (Int.tdiv (zu_w64 (x2 * x2)) x6)
          exact zw_some ⟨hImh, hFmh, hRKNmh, ⟨by omega, by omega⟩, ⟨by omega, by omega⟩⟩
        · refine zw_nif (by omega) ?_
          have w29 := zu_w64_rg (Int.tdiv x4 x6)
          exact zw_some ⟨hImh, hFmh, hRKNmh, ⟨by omega, by omega⟩, ⟨by omega, by omega⟩⟩
      · refine zw_nif (by omega) ?_
        have d30 := ztmod_bd (x := x6) (y := x8) (by omega) (by omega)
        have hM : (Int.tmod x6 x8) * 1 + 0 < (k : Int) := by omega
        exact zw_le (zu_forget (zu_lr_same (zu_lr_same (zu_lr_same (zu_lr_same (zu_lr_same (zu_lr_same (zu_lr_same (zu_lr_same (zu_lr_same (zu_lr_same (zu_lr_drop (zu_lr_same zu_lr_nil))))))))))))) (ih.2 x2 x4 x8 (Int.tmod x6 x8) mh hImh hFmh ⟨by omega, by omega⟩ ⟨by omega, by omega⟩ ⟨by omega, by omega⟩ ⟨by omega, by omega⟩ ⟨by omega, by omega⟩ ⟨by omega, by omega⟩ (by omega) hRKNmh hM)
set_option maxHeartbeats 4000000 in
theorem zk_172 (n : Nat) {a0 a1 : Int} {m0 : zu_m} (hIm0 : zi_I m0) (hc0 : zcls a0 = 28) (ha1 : (-2147483648) ≤ a1 ∧ a1 ≤ 2147483647)    (hRKNm0 : zR_KN m0) : zw (zu_call (zt_T n) 172 [(40, a0), (0, a1)] m0) (fun v m => zi_I m ∧ zfr [(28, 3), (28, 54), (122, 0), (123, 0)] m0 m ∧ zR_KN m ∧ ((-9223372036854775808) ≤ v ∧ v ≤ 9223372036854775807) ∧ (0 ≤ m a0 2 ∧ m a0 2 ≤ 0)) := by
  have hFm0 : zfr [(28, 3), (28, 54), (122, 0), (123, 0)] m0 m0 := zfr_rf _ _
  refine zw_eq (zu_call_at (zt_T n) (zm_172 n) (zdp_172 n) _ _ _ _ _ rfl (zr_172_0 n _ _ a0 a1 m0)) ?_
  generalize hmm31 : zu_up m0 a0 2 0 = m31
  have hIm31 := zi_up hmm31 hIm0 hc0 zb_28_2 (by omega) (by omega)
  have hFm31 := zfr_up hmm31 hFm0 hc0 rfl
  have hRKNm31 := zR_KN_fr (zdis_fr (zfr_up hmm31 (zfr_rf [(28, 3)] _) hc0 rfl) rfl) hRKNm0
  have r32 : (-2147483648) ≤ (m31 a0 2) ∧ (m31 a0 2) ≤ 2147483647 := zi_rd hIm31 hc0 zb_28_2
  have e33 : (m31 a0 2) = 0 := (zs_eq hmm31)
  have hM : (48 - 0) * 1 + 9223372036854775808 < ((9223372036854775857 : Nat) : Int) := by omega
  exact (zl_172 n (m0 := m0) hc0 9223372036854775857).1 0 0 0 m31 hIm31 hFm31 ⟨by omega, by omega⟩ ⟨by omega, by omega⟩ ⟨by omega, by omega⟩ ⟨by omega, by omega⟩ ⟨by omega, by omega⟩ (by omega) (by omega) hRKNm31 hM
set_option maxHeartbeats 4000000 in
theorem zl_173 (n : Nat) {a0 : Int} {m0 : zu_m} (hc0 : zcls a0 = 28)   : ∀ k : Nat, (∀ (x1 x2 : Int) (mh : zu_m), zi_I mh → zfr [(28, 3), (28, 54), (122, 0), (123, 0)] m0 mh → ((-2147483648) ≤ x1 ∧ x1 ≤ 2147483647) → (0 ≤ x2 ∧ x2 ≤ 16) → (0 ≤ mh a0 2 ∧ mh a0 2 ≤ 0) → (zR_KN mh) → (16 - x2) * 1 + 0 < (k : Int) → zw (zu_ex (zt_T n) 173 9 [(40, a0), (0, x1), (0, x2)] [] mh) (fun v m => zi_I m ∧ zfr [(28, 3), (28, 54), (122, 0), (123, 0)] m0 m ∧ zR_KN m ∧ ((-2147483648) ≤ v ∧ v ≤ 2147483647) ∧ (0 ≤ m a0 2 ∧ m a0 2 ≤ 0))) := by
  intro k
  induction k with
  | zero => exact fun x1 x2 mh hImh hFmh hbx1 hbx2 hg2 hRKNmh hM => by exfalso; omega
  | succ k ih =>
    intro x1 x2 mh hImh hFmh hbx1 hbx2 hg2 hRKNmh hM
    refine zw_eq (zu_rega_at (zt_T n) (zm_173 n) (zdp_173 n) _ _ _ _ _ _ (zr_173_9 n _ _ a0 x1 x2 mh)) ?_
    have b1 : 0 ≤ (0 : Int) ∧ (0 : Int) < 2 := by omega
    refine zw_if b1 ?_
    have r2 : 0 ≤ (mh 216 0) ∧ (mh 216 0) ≤ 16 := zi_rdr (m := 2) (r0 := 0) (r1 := 0) hImh zq_216 (by omega) (by decide +kernel)
    refine zw_ite (fun h3 => ?_) (fun h3 => ?_)
    · exact zw_some ⟨hImh, hFmh, hRKNmh, ⟨by omega, by omega⟩, ⟨by omega, by omega⟩⟩
    · have b4 : 0 ≤ x2 ∧ x2 < 36 := by omega
      refine zw_if b4 ?_
      have r5 : (-3) ≤ (mh 215 x2) ∧ (mh 215 x2) ≤ 3 := zi_rd hImh zq_215 (zb_124 _)
      refine zw_ite (fun h6 => ?_) (fun h6 => ?_)
      · have w7 := zu_w32_id (z := x1 + 0) (by omega) (by omega)
        have w8 := zu_w32_id (z := x2 + 1) (by omega) (by omega)
        have hM : (16 - (zu_w32 (x2 + 1))) * 1 + 0 < (k : Int) := by omega
        exact ih (zu_w32 (x1 + 0)) (zu_w32 (x2 + 1)) mh hImh hFmh ⟨by omega, by omega⟩ ⟨by omega, by omega⟩ ⟨by omega, by omega⟩ hRKNmh hM
      · refine zw_bd (zw_mono (zk_133 n hImh hc0 ⟨by omega, by omega⟩ hRKNmh) (fun v10 m9 hqm9 => ?_))
        obtain ⟨hIm9, hfm9, hvm9⟩ := hqm9
        have hFm9 := zfr_tr hFmh hfm9 rfl
        obtain ⟨hRKNm9, hvm9⟩ := hvm9
        have w11 := zu_w32_rg (100 - v10)
        have w12 := zu_w32_rg (x1 + (zu_w32 (100 - v10)))
        have w13 := zu_w32_id (z := x2 + 1) (by omega) (by omega)
        have r14 : (-2147483648) ≤ (m9 a0 2) ∧ (m9 a0 2) ≤ 2147483647 := zi_rd hIm9 hc0 zb_28_2
        have e15 : (m9 a0 2) = (mh a0 2) := (zfr_ap hfm9 hc0 rfl)
        have hM : (16 - (zu_w32 (x2 + 1))) * 1 + 0 < (k : Int) := by omega
        exact ih (zu_w32 (x1 + (zu_w32 (100 - v10)))) (zu_w32 (x2 + 1)) m9 hIm9 hFm9 ⟨by omega, by omega⟩ ⟨by omega, by omega⟩ ⟨by omega, by omega⟩ hRKNm9 hM
set_option maxHeartbeats 4000000 in
theorem zk_173 (n : Nat) {a0 : Int} {m0 : zu_m} (hIm0 : zi_I m0) (hc0 : zcls a0 = 28)     (hRKNm0 : zR_KN m0) : zw (zu_call (zt_T n) 173 [(40, a0)] m0) (fun v m => zi_I m ∧ zfr [(28, 3), (28, 54), (122, 0), (123, 0)] m0 m ∧ zR_KN m ∧ ((-2147483648) ≤ v ∧ v ≤ 2147483647) ∧ (0 ≤ m a0 2 ∧ m a0 2 ≤ 0)) := by
  have hFm0 : zfr [(28, 3), (28, 54), (122, 0), (123, 0)] m0 m0 := zfr_rf _ _
  refine zw_eq (zu_call_at (zt_T n) (zm_173 n) (zdp_173 n) _ _ _ _ _ rfl (zr_173_0 n _ _ a0 m0)) ?_
  generalize hmm16 : zu_up m0 a0 2 0 = m16
  have hIm16 := zi_up hmm16 hIm0 hc0 zb_28_2 (by omega) (by omega)
  have hFm16 := zfr_up hmm16 hFm0 hc0 rfl
  have hRKNm16 := zR_KN_fr (zdis_fr (zfr_up hmm16 (zfr_rf [(28, 3)] _) hc0 rfl) rfl) hRKNm0
  have r17 : (-2147483648) ≤ (m16 a0 2) ∧ (m16 a0 2) ≤ 2147483647 := zi_rd hIm16 hc0 zb_28_2
  have e18 : (m16 a0 2) = 0 := (zs_eq hmm16)
  have hM : (16 - 0) * 1 + 0 < ((17 : Nat) : Int) := by omega
  exact (zl_173 n (m0 := m0) hc0 17) 0 0 m16 hIm16 hFm16 ⟨by omega, by omega⟩ ⟨by omega, by omega⟩ ⟨by omega, by omega⟩ hRKNm16 hM
set_option maxHeartbeats 4000000 in
theorem zk_174 (n : Nat) {a0 a1 a2 : Int} {m0 : zu_m} (hIm0 : zi_I m0) (hc0 : zcls a0 = 28) (ha1 : (-2147483648) ≤ a1 ∧ a1 ≤ 2147483647) (ha2 : (-2147483648) ≤ a2 ∧ a2 ≤ 2147483647)    (hRKNm0 : zR_KN m0) : zw (zu_call (zt_T n) 174 [(40, a0), (0, a1), (0, a2)] m0) (fun v m => zi_I m ∧ zfr [(28, 3), (28, 54), (122, 0), (123, 0)] m0 m ∧ zR_KN m ∧ ((-2147483648) ≤ v ∧ v ≤ 2147483647) ∧ (0 ≤ m a0 2 ∧ m a0 2 ≤ 0)) := by
  have hFm0 : zfr [(28, 3), (28, 54), (122, 0), (123, 0)] m0 m0 := zfr_rf _ _
  refine zw_eq (zu_call_at (zt_T n) (zm_174 n) (zdp_174 n) _ _ _ _ _ rfl (zr_174_0 n _ _ a0 a1 a2 m0)) ?_
  generalize hmm1 : zu_up m0 a0 2 0 = m1
  have hIm1 := zi_up hmm1 hIm0 hc0 zb_28_2 (by omega) (by omega)
  have hFm1 := zfr_up hmm1 hFm0 hc0 rfl
  have hRKNm1 := zR_KN_fr (zdis_fr (zfr_up hmm1 (zfr_rf [(28, 3)] _) hc0 rfl) rfl) hRKNm0
  refine zw_bd (zw_eq (zu_call_at (zt_T n) (zm_125 n) (zdp_125 n) _ _ _ _ _ rfl (zr_125_0 n _ _ a0 a1 m1)) ?_)
  refine zw_ite (fun h2 => ?_) (fun h2 => ?_)
  · refine zw_b (by omega) ?_
    refine zw_some ?_
    refine zw_ite (fun h3 => ?_) (fun h3 => ?_)
    · have r4 : (-2147483648) ≤ (m1 a0 2) ∧ (m1 a0 2) ≤ 2147483647 := zi_rd hIm1 hc0 zb_28_2
      have e5 : (m1 a0 2) = 0 := (zs_eq hmm1)
      exact zw_some ⟨hIm1, hFm1, hRKNm1, ⟨by omega, by omega⟩, ⟨by omega, by omega⟩⟩
    · exfalso; omega
  · have r6 : 0 ≤ (m1 a0 15) ∧ (m1 a0 15) ≤ 4 := zi_rd hIm1 hc0 zb_28_15
    refine zw_ite (fun h7 => ?_) (fun h7 => ?_)
    · refine zw_b (by omega) ?_
      refine zw_some ?_
      refine zw_ite (fun h8 => ?_) (fun h8 => ?_)
      · have r9 : (-2147483648) ≤ (m1 a0 2) ∧ (m1 a0 2) ≤ 2147483647 := zi_rd hIm1 hc0 zb_28_2
        have e10 : (m1 a0 2) = 0 := (zs_eq hmm1)
        exact zw_some ⟨hIm1, hFm1, hRKNm1, ⟨by omega, by omega⟩, ⟨by omega, by omega⟩⟩
      · exfalso; omega
    · refine zw_b (by omega) ?_
      refine zw_some ?_
      refine zw_ite (fun h11 => ?_) (fun h11 => ?_)
      · exfalso; omega
      · refine zw_bd (zw_eq (zu_call_at (zt_T n) (zm_124 n) (zdp_124 n) _ _ _ _ _ rfl (zr_124_0 n _ _ a0 a2 m1)) ?_)
        refine zw_ite (fun h12 => ?_) (fun h12 => ?_)
        · refine zw_b (by omega) ?_
          refine zw_some ?_
          refine zw_ite (fun h13 => ?_) (fun h13 => ?_)
          · have r14 : (-2147483648) ≤ (m1 a0 2) ∧ (m1 a0 2) ≤ 2147483647 := zi_rd hIm1 hc0 zb_28_2
            have e15 : (m1 a0 2) = 0 := (zs_eq hmm1)
            exact zw_some ⟨hIm1, hFm1, hRKNm1, ⟨by omega, by omega⟩, ⟨by omega, by omega⟩⟩
          · exfalso; omega
        · have b16 : 0 ≤ (0 : Int) ∧ (0 : Int) < 2 := by omega
          refine zw_if b16 ?_
          have r17 : 0 ≤ (m1 216 0) ∧ (m1 216 0) ≤ 16 := zi_rdr (m := 2) (r0 := 0) (r1 := 0) hIm1 zq_216 (by omega) (by decide +kernel)
          refine zw_ite (fun h18 => ?_) (fun h18 => ?_)
          · refine zw_b (by omega) ?_
            refine zw_some ?_
            refine zw_ite (fun h19 => ?_) (fun h19 => ?_)
            · have r20 : (-2147483648) ≤ (m1 a0 2) ∧ (m1 a0 2) ≤ 2147483647 := zi_rd hIm1 hc0 zb_28_2
              have e21 : (m1 a0 2) = 0 := (zs_eq hmm1)
              exact zw_some ⟨hIm1, hFm1, hRKNm1, ⟨by omega, by omega⟩, ⟨by omega, by omega⟩⟩
            · exfalso; omega
          · refine zw_b (by omega) ?_
            refine zw_some ?_
            refine zw_ite (fun h22 => ?_) (fun h22 => ?_)
            · exfalso; omega
            · refine zw_bd (zw_mono (zk_132 n hIm1 hc0 ⟨by omega, by omega⟩ ⟨by omega, by omega⟩ hRKNm1) (fun v24 m23 hqm23 => ?_))
              obtain ⟨hIm23, hfm23, hvm23⟩ := hqm23
              have hFm23 := zfr_tr hFm1 hfm23 rfl
              obtain ⟨hRKNm23, hvm23⟩ := hvm23
              have r25 : (-2147483648) ≤ (m23 a0 2) ∧ (m23 a0 2) ≤ 2147483647 := zi_rd hIm23 hc0 zb_28_2
              have e26 : (m23 a0 2) = 0 := (Eq.trans (zfr_ap hfm23 hc0 rfl) (zs_eq hmm1))
              exact zw_some ⟨hIm23, hFm23, hRKNm23, ⟨by omega, by omega⟩, ⟨by omega, by omega⟩⟩
set_option maxHeartbeats 4000000 in
theorem zk_175 (n : Nat) {a0 a1 a2 a3 a4 : Int} {m0 : zu_m} (hIm0 : zi_I m0) (hc0 : zcls a0 = 28) (ha1 : 0 ≤ a1 ∧ a1 ≤ 3) (ha2 : 1 ≤ a2 ∧ a2 ≤ 3) (ha3 : 0 ≤ a3 ∧ a3 ≤ 15) (ha4 : 0 ≤ a4 ∧ a4 ≤ 15)    (hRKNm0 : zR_KN m0) : zw (zu_call (zt_T n) 175 [(40, a0), (0, a1), (0, a2), (0, a3), (0, a4)] m0) (fun v m => zi_I m ∧ zfr [(28, 54), (122, 0), (123, 0)] m0 m ∧ zR_KN m ∧ (0 ≤ v ∧ v ≤ 1)) := by
  have hFm0 : zfr [(28, 54), (122, 0), (123, 0)] m0 m0 := zfr_rf _ _
  refine zw_eq (zu_call_at (zt_T n) (zm_175 n) (zdp_175 n) _ _ _ _ _ rfl (zr_175_0 n _ _ a0 a1 a2 a3 a4 m0)) ?_
  refine zw_bd (zw_mono (zk_132 n hIm0 hc0 ⟨by omega, by omega⟩ ⟨by omega, by omega⟩ hRKNm0) (fun v2 m1 hqm1 => ?_))
  obtain ⟨hIm1, hfm1, hvm1⟩ := hqm1
  have hFm1 := zfr_tr hFm0 hfm1 rfl
  obtain ⟨hRKNm1, hvm1⟩ := hvm1
  refine zw_bd (zw_mono (zk_132 n hIm1 hc0 ⟨by omega, by omega⟩ ⟨by omega, by omega⟩ hRKNm1) (fun v4 m3 hqm3 => ?_))
  obtain ⟨hIm3, hfm3, hvm3⟩ := hqm3
  have hFm3 := zfr_tr hFm1 hfm3 rfl
  obtain ⟨hRKNm3, hvm3⟩ := hvm3
  refine zw_ite (fun h5 => ?_) (fun h5 => ?_)
  · refine zw_b (by omega) ?_
    exact zw_some ⟨hIm3, hFm3, hRKNm3, ⟨by omega, by omega⟩⟩
  · refine zw_bd (zw_mono (zk_132 n hIm3 hc0 ⟨by omega, by omega⟩ ⟨by omega, by omega⟩ hRKNm3) (fun v7 m6 hqm6 => ?_))
    obtain ⟨hIm6, hfm6, hvm6⟩ := hqm6
    have hFm6 := zfr_tr hFm3 hfm6 rfl
    obtain ⟨hRKNm6, hvm6⟩ := hvm6
    refine zw_bd (zw_mono (zk_132 n hIm6 hc0 ⟨by omega, by omega⟩ ⟨by omega, by omega⟩ hRKNm6) (fun v9 m8 hqm8 => ?_))
    obtain ⟨hIm8, hfm8, hvm8⟩ := hqm8
    have hFm8 := zfr_tr hFm6 hfm8 rfl
    obtain ⟨hRKNm8, hvm8⟩ := hvm8
    refine zw_ite (fun h10 => ?_) (fun h10 => ?_)
    · refine zw_b (by omega) ?_
      exact zw_some ⟨hIm8, hFm8, hRKNm8, ⟨by omega, by omega⟩⟩
    · refine zw_b (by omega) ?_
      exact zw_some ⟨hIm8, hFm8, hRKNm8, ⟨by omega, by omega⟩⟩
set_option maxHeartbeats 4000000 in
theorem zl_177 (n : Nat) {a0 a1 : Int} {m0 : zu_m} (hc0 : zcls a0 = 28)   : ∀ k : Nat, (∀ (x2 : Int) (mh : zu_m), zi_I mh → zfr [(28, 3), (28, 54), (122, 0), (123, 0), (134, 0)] m0 mh → (0 ≤ a1 ∧ a1 ≤ 15) → (0 ≤ x2 ∧ x2 ≤ 4) → (1 ≤ mh 216 0 ∧ mh 216 0 ≤ 16) → (0 ≤ mh a0 2 ∧ mh a0 2 ≤ 0) → (zR_KN mh) → (4 - x2) * 1 + 85 < (k : Int) → zw (zu_ex (zt_T n) 177 29 [(40, a0), (0, a1), (0, x2), (2, 0), (2, 0)] [] mh) (fun v m => zi_I m ∧ zfr [(28, 3), (28, 54), (122, 0), (123, 0), (134, 0)] m0 m ∧ zR_KN m ∧ ((-8) ≤ v ∧ v ≤ 3) ∧ (0 ≤ m a0 2 ∧ m a0 2 ≤ 0))) ∧ (∀ (x2 x3 : Int) (mh : zu_m), zi_I mh → zfr [(28, 3), (28, 54), (122, 0), (123, 0), (134, 0)] m0 mh → (0 ≤ a1 ∧ a1 ≤ 15) → (0 ≤ x2 ∧ x2 ≤ 3) → (0 ≤ x3 ∧ x3 ≤ 16) → (1 ≤ mh 216 0 ∧ mh 216 0 ≤ 16) → (0 ≤ mh a0 2 ∧ mh a0 2 ≤ 0) → (zR_KN mh) → (16 - x3) * 5 + 4 < (k : Int) → zw (zu_ex (zt_T n) 177 51 [(40, a0), (0, a1), (0, x2), (0, x3), (2, 0)] [] mh) (fun v m => zi_I m ∧ zfr [(28, 3), (28, 54), (122, 0), (123, 0), (134, 0)] m0 m ∧ zR_KN m ∧ ((-8) ≤ v ∧ v ≤ 3) ∧ (0 ≤ m a0 2 ∧ m a0 2 ≤ 0))) ∧ (∀ (x2 x3 x4 : Int) (mh : zu_m), zi_I mh → zfr [(28, 3), (28, 54), (122, 0), (123, 0), (134, 0)] m0 mh → (0 ≤ a1 ∧ a1 ≤ 15) → (0 ≤ x2 ∧ x2 ≤ 3) → (0 ≤ x3 ∧ x3 ≤ 15) → (1 ≤ x4 ∧ x4 ≤ 4) → (1 ≤ mh 216 0 ∧ mh 216 0 ≤ 16) → (0 ≤ mh a0 2 ∧ mh a0 2 ≤ 0) → (zR_KN mh) → (4 - x4) * 1 + (16 - x3) * 5 + 0 < (k : Int) → zw (zu_ex (zt_T n) 177 73 [(40, a0), (0, a1), (0, x2), (0, x3), (0, x4)] [] mh) (fun v m => zi_I m ∧ zfr [(28, 3), (28, 54), (122, 0), (123, 0), (134, 0)] m0 m ∧ zR_KN m ∧ ((-8) ≤ v ∧ v ≤ 3) ∧ (0 ≤ m a0 2 ∧ m a0 2 ≤ 0))) := by
  intro k
  induction k with
  | zero => exact ⟨fun x2 mh hImh hFmh hba1 hbx2 hg2 hg3 hRKNmh hM => by exfalso; omega, fun x2 x3 mh hImh hFmh hba1 hbx2 hbx3 hg3 hg4 hRKNmh hM => by exfalso; omega, fun x2 x3 x4 mh hImh hFmh hba1 hbx2 hbx3 hbx4 hg4 hg5 hRKNmh hM => by exfalso; omega⟩
  | succ k ih =>
    refine ⟨?_, ?_, ?_⟩
    · intro x2 mh hImh hFmh hba1 hbx2 hg2 hg3 hRKNmh hM
      refine zw_eq (zu_rega_at (zt_T n) (zm_177 n) (zdp_177 n) _ _ _ _ _ _ (zr_177_29 n _ _ a0 a1 x2 mh)) ?_
      refine zw_ite (fun h1 => ?_) (fun h1 => ?_)
      · have hM : (16 - 0) * 5 + 4 < (k : Int) := by omega
        exact ih.2.1 0 0 mh hImh hFmh ⟨by omega, by omega⟩ ⟨by omega, by omega⟩ ⟨by omega, by omega⟩ ⟨by omega, by omega⟩ ⟨by omega, by omega⟩ hRKNmh hM
      · have b2 : 0 ≤ x2 ∧ x2 < 4 := by omega
        refine zw_if b2 ?_
        generalize hmm3 : zu_up mh 225 x2 0 = m3
        have hIm3 := zi_up hmm3 hImh zq_225 (zb_134 _) (by omega) (by omega)
        have hFm3 := zfr_up hmm3 hFmh zq_225 rfl
        have hRKNm3 := zR_KN_fr (zdis_fr (zfr_up hmm3 (zfr_rf [(134, 0)] _) zq_225 rfl) rfl) hRKNmh
        have w4 := zu_w32_id (z := x2 + 1) (by omega) (by omega)
        have r5 : (-2147483648) ≤ (m3 a0 2) ∧ (m3 a0 2) ≤ 2147483647 := zi_rd hIm3 hc0 zb_28_2
        have e6 : (m3 a0 2) = (mh a0 2) := (zs_ne hmm3 (Or.inl (zc_ne hc0 zq_225 (by decide))))
        have r7 : 0 ≤ (m3 216 0) ∧ (m3 216 0) ≤ 16 := zi_rdr (m := 2) (r0 := 0) (r1 := 0) hIm3 zq_216 (by omega) (by decide +kernel)
        have e8 : (m3 216 0) = (mh 216 0) := (zs_ne hmm3 (Or.inl (zc_ne zq_216 zq_225 (by decide))))
        have hM : (4 - (zu_w32 (x2 + 1))) * 1 + 85 < (k : Int) := by omega
        exact ih.1 (zu_w32 (x2 + 1)) m3 hIm3 hFm3 ⟨by omega, by omega⟩ ⟨by omega, by omega⟩ ⟨by omega, by omega⟩ ⟨by omega, by omega⟩ hRKNm3 hM
    · intro x2 x3 mh hImh hFmh hba1 hbx2 hbx3 hg3 hg4 hRKNmh hM
      refine zw_eq (zu_rega_at (zt_T n) (zm_177 n) (zdp_177 n) _ _ _ _ _ _ (zr_177_51 n _ _ a0 a1 x2 x3 mh)) ?_
      refine zw_ite (fun h9 => ?_) (fun h9 => ?_)
      · exact zw_some ⟨hImh, hFmh, hRKNmh, ⟨by omega, by omega⟩, ⟨by omega, by omega⟩⟩
      · have b10 : 0 ≤ x3 ∧ x3 < 36 := by omega
        refine zw_if b10 ?_
        have r11 : (-3) ≤ (mh 215 x3) ∧ (mh 215 x3) ≤ 3 := zi_rd hImh zq_215 (zb_124 _)
        refine zw_ite (fun h12 => ?_) (fun h12 => ?_)
        · have hM : (4 - 1) * 1 + (16 - x3) * 5 + 0 < (k : Int) := by omega
          exact ih.2.2 0 x3 1 mh hImh hFmh ⟨by omega, by omega⟩ ⟨by omega, by omega⟩ ⟨by omega, by omega⟩ ⟨by omega, by omega⟩ ⟨by omega, by omega⟩ ⟨by omega, by omega⟩ hRKNmh hM
        · have w13 := zu_w32_id (z := x3 + 1) (by omega) (by omega)
          have hM : (16 - (zu_w32 (x3 + 1))) * 5 + 4 < (k : Int) := by omega
          exact ih.2.1 x2 (zu_w32 (x3 + 1)) mh hImh hFmh ⟨by omega, by omega⟩ ⟨by omega, by omega⟩ ⟨by omega, by omega⟩ ⟨by omega, by omega⟩ ⟨by omega, by omega⟩ hRKNmh hM
    · intro x2 x3 x4 mh hImh hFmh hba1 hbx2 hbx3 hbx4 hg4 hg5 hRKNmh hM
      refine zw_eq (zu_rega_at (zt_T n) (zm_177 n) (zdp_177 n) _ _ _ _ _ _ (zr_177_73 n _ _ a0 a1 x2 x3 x4 mh)) ?_
      have r14 : 0 ≤ (mh a0 15) ∧ (mh a0 15) ≤ 4 := zi_rd hImh hc0 zb_28_15
      refine zw_ite (fun h15 => ?_) (fun h15 => ?_)
      · have b16 : 0 ≤ x2 ∧ x2 < 4 := by omega
        refine zw_if b16 ?_
        have r17 : (-2147483648) ≤ (mh 225 x2) ∧ (mh 225 x2) ≤ 2147483647 := zi_rd hImh zq_225 (zb_134 _)
        refine zw_bd (zw_mono (zk_132 n hImh hc0 ⟨by omega, by omega⟩ ⟨by omega, by omega⟩ hRKNmh) (fun v19 m18 hqm18 => ?_))
        obtain ⟨hIm18, hfm18, hvm18⟩ := hqm18
        have hFm18 := zfr_tr hFmh hfm18 rfl
        obtain ⟨hRKNm18, hvm18⟩ := hvm18
        have w20 := zu_w32_rg ((mh 225 x2) + v19)
        have b21 : 0 ≤ x2 ∧ x2 < 4 := by omega
        refine zw_if b21 ?_
        generalize hmm22 : zu_up m18 225 x2 (zu_w32 ((mh 225 x2) + v19)) = m22
        have hIm22 := zi_up hmm22 hIm18 zq_225 (zb_134 _) (by omega) (by omega)
        have hFm22 := zfr_up hmm22 hFm18 zq_225 rfl
        have hRKNm22 := zR_KN_fr (zdis_fr (zfr_up hmm22 (zfr_rf [(134, 0)] _) zq_225 rfl) rfl) hRKNm18
        have w23 := zu_w32_id (z := x3 + 1) (by omega) (by omega)
        have r24 : (-2147483648) ≤ (m22 a0 2) ∧ (m22 a0 2) ≤ 2147483647 := zi_rd hIm22 hc0 zb_28_2
        have e25 : (m22 a0 2) = (mh a0 2) := (Eq.trans (zs_ne hmm22 (Or.inl (zc_ne hc0 zq_225 (by decide)))) (zfr_ap hfm18 hc0 rfl))
        have r26 : 0 ≤ (m22 216 0) ∧ (m22 216 0) ≤ 16 := zi_rdr (m := 2) (r0 := 0) (r1 := 0) hIm22 zq_216 (by omega) (by decide +kernel)
        have e27 : (m22 216 0) = (mh 216 0) := (Eq.trans (zs_ne hmm22 (Or.inl (zc_ne zq_216 zq_225 (by decide)))) (zfr_ap hfm18 zq_216 rfl))
        have hM : (16 - (zu_w32 (x3 + 1))) * 5 + 4 < (k : Int) := by omega
        exact zw_le (zu_forget (zu_lr_same (zu_lr_same (zu_lr_same (zu_lr_same (zu_lr_drop zu_lr_nil)))))) (ih.2.1 x2 (zu_w32 (x3 + 1)) m22 hIm22 hFm22 ⟨by omega, by omega⟩ ⟨by omega, by omega⟩ ⟨by omega, by omega⟩ ⟨by omega, by omega⟩ ⟨by omega, by omega⟩ hRKNm22 hM)
      · have b28 : 0 ≤ x4 ∧ x4 < 4 := by omega
        refine zw_if b28 ?_
        have r29 : (-2147483648) ≤ (mh 225 x4) ∧ (mh 225 x4) ≤ 2147483647 := zi_rd hImh zq_225 (zb_134 _)
        have b30 : 0 ≤ x2 ∧ x2 < 4 := by omega
        refine zw_if b30 ?_
        have r31 : (-2147483648) ≤ (mh 225 x2) ∧ (mh 225 x2) ≤ 2147483647 := zi_rd hImh zq_225 (zb_134 _)
        refine zw_ite (fun h32 => ?_) (fun h32 => ?_)
        · have w33 := zu_w32_id (z := x4 + 1) (by omega) (by omega)
          have hM : (4 - (zu_w32 (x4 + 1))) * 1 + (16 - x3) * 5 + 0 < (k : Int) := by omega
          exact ih.2.2 x2 x3 (zu_w32 (x4 + 1)) mh hImh hFmh ⟨by omega, by omega⟩ ⟨by omega, by omega⟩ ⟨by omega, by omega⟩ ⟨by omega, by omega⟩ ⟨by omega, by omega⟩ ⟨by omega, by omega⟩ hRKNmh hM
        · have w34 := zu_w32_id (z := x4 + 1) (by omega) (by omega)
          have hM : (4 - (zu_w32 (x4 + 1))) * 1 + (16 - x3) * 5 + 0 < (k : Int) := by omega
          exact ih.2.2 x4 x3 (zu_w32 (x4 + 1)) mh hImh hFmh ⟨by omega, by omega⟩ ⟨by omega, by omega⟩ ⟨by omega, by omega⟩ ⟨by omega, by omega⟩ ⟨by omega, by omega⟩ ⟨by omega, by omega⟩ hRKNmh hM
set_option maxHeartbeats 4000000 in
theorem zk_177 (n : Nat) {a0 a1 : Int} {m0 : zu_m} (hIm0 : zi_I m0) (hc0 : zcls a0 = 28) (ha1 : (-2147483648) ≤ a1 ∧ a1 ≤ 2147483647)    (hRKNm0 : zR_KN m0) : zw (zu_call (zt_T n) 177 [(40, a0), (0, a1)] m0) (fun v m => zi_I m ∧ zfr [(28, 3), (28, 54), (122, 0), (123, 0), (134, 0)] m0 m ∧ zR_KN m ∧ ((-8) ≤ v ∧ v ≤ 3) ∧ (0 ≤ m a0 2 ∧ m a0 2 ≤ 0)) := by
  have hFm0 : zfr [(28, 3), (28, 54), (122, 0), (123, 0), (134, 0)] m0 m0 := zfr_rf _ _
  refine zw_eq (zu_call_at (zt_T n) (zm_177 n) (zdp_177 n) _ _ _ _ _ rfl (zr_177_0 n _ _ a0 a1 m0)) ?_
  generalize hmm35 : zu_up m0 a0 2 0 = m35
  have hIm35 := zi_up hmm35 hIm0 hc0 zb_28_2 (by omega) (by omega)
  have hFm35 := zfr_up hmm35 hFm0 hc0 rfl
  have hRKNm35 := zR_KN_fr (zdis_fr (zfr_up hmm35 (zfr_rf [(28, 3)] _) hc0 rfl) rfl) hRKNm0
  refine zw_bd (zw_eq (zu_call_at (zt_T n) (zm_124 n) (zdp_124 n) _ _ _ _ _ rfl (zr_124_0 n _ _ a0 a1 m35)) ?_)
  refine zw_ite (fun h36 => ?_) (fun h36 => ?_)
  · refine zw_b (by omega) ?_
    refine zw_some ?_
    refine zw_ite (fun h37 => ?_) (fun h37 => ?_)
    · exfalso; omega
    · have r38 : (-2147483648) ≤ (m35 a0 2) ∧ (m35 a0 2) ≤ 2147483647 := zi_rd hIm35 hc0 zb_28_2
      have e39 : (m35 a0 2) = 0 := (zs_eq hmm35)
      exact zw_some ⟨hIm35, hFm35, hRKNm35, ⟨by omega, by omega⟩, ⟨by omega, by omega⟩⟩
  · have b40 : 0 ≤ (0 : Int) ∧ (0 : Int) < 2 := by omega
    refine zw_if b40 ?_
    have r41 : 0 ≤ (m35 216 0) ∧ (m35 216 0) ≤ 16 := zi_rdr (m := 2) (r0 := 0) (r1 := 0) hIm35 zq_216 (by omega) (by decide +kernel)
    refine zw_ite (fun h42 => ?_) (fun h42 => ?_)
    · refine zw_b (by omega) ?_
      refine zw_some ?_
      refine zw_ite (fun h43 => ?_) (fun h43 => ?_)
      · exfalso; omega
      · have r44 : (-2147483648) ≤ (m35 a0 2) ∧ (m35 a0 2) ≤ 2147483647 := zi_rd hIm35 hc0 zb_28_2
        have e45 : (m35 a0 2) = 0 := (zs_eq hmm35)
        exact zw_some ⟨hIm35, hFm35, hRKNm35, ⟨by omega, by omega⟩, ⟨by omega, by omega⟩⟩
    · refine zw_b (by omega) ?_
      refine zw_some ?_
      refine zw_ite (fun h46 => ?_) (fun h46 => ?_)
      · have b47 : 0 ≤ a1 ∧ a1 < 36 := by omega
        refine zw_if b47 ?_
        have r48 : (-3) ≤ (m35 215 a1) ∧ (m35 215 a1) ≤ 3 := zi_rd hIm35 zq_215 (zb_124 _)
        refine zw_ite (fun h49 => ?_) (fun h49 => ?_)
        · have r50 : (-2147483648) ≤ (m35 a0 2) ∧ (m35 a0 2) ≤ 2147483647 := zi_rd hIm35 hc0 zb_28_2
          have e51 : (m35 a0 2) = 0 := (zs_eq hmm35)
          have hM : (4 - 0) * 1 + 85 < ((90 : Nat) : Int) := by omega
          exact (zl_177 n (m0 := m0) hc0 90).1 0 m35 hIm35 hFm35 ⟨by omega, by omega⟩ ⟨by omega, by omega⟩ ⟨by omega, by omega⟩ ⟨by omega, by omega⟩ hRKNm35 hM
        · have r52 : (-2147483648) ≤ (m35 a0 2) ∧ (m35 a0 2) ≤ 2147483647 := zi_rd hIm35 hc0 zb_28_2
          have e53 : (m35 a0 2) = 0 := (zs_eq hmm35)
          exact zw_some ⟨hIm35, hFm35, hRKNm35, ⟨by omega, by omega⟩, ⟨by omega, by omega⟩⟩
      · exfalso; omega
set_option maxHeartbeats 4000000 in
theorem zl_241 (n : Nat) {a0 a1 : Int} {m0 : zu_m} (hc0 : zcls a0 = 16)   : ∀ k : Nat, (∀ (x2 : Int) (mh : zu_m), zi_I mh → zfr [(56, 0), (59, 1), (59, 2), (59, 3), (59, 4), (59, 5), (59, 6), (59, 7)] m0 mh → (0 ≤ a1 ∧ a1 ≤ 3) → (0 ≤ x2 ∧ x2 ≤ 4) → (zR_K54 mh) → (4 - x2) * 5 + 4 < (k : Int) → zw (zu_ex (zt_T n) 241 2 [(27, a0), (0, a1), (0, x2), (2, 0), (2, 0)] [] mh) (fun v m => zi_I m ∧ zfr [(56, 0), (59, 1), (59, 2), (59, 3), (59, 4), (59, 5), (59, 6), (59, 7)] m0 m ∧ zR_K54 m ∧ ((-2) ≤ v ∧ v ≤ 15))) ∧ (∀ (x2 x3 : Int) (mh : zu_m), zi_I mh → zfr [(56, 0), (59, 1), (59, 2), (59, 3), (59, 4), (59, 5), (59, 6), (59, 7)] m0 mh → (0 ≤ a1 ∧ a1 ≤ 3) → (0 ≤ x2 ∧ x2 ≤ 3) → (1 ≤ x3 ∧ x3 ≤ 4) → (1 ≤ mh a0 4 ∧ mh a0 4 ≤ 4) → (zR_K54 mh) → (4 - x3) * 1 + (4 - x2) * 5 + 0 < (k : Int) → zw (zu_ex (zt_T n) 241 14 [(27, a0), (0, a1), (0, x2), (0, x3), (2, 0)] [] mh) (fun v m => zi_I m ∧ zfr [(56, 0), (59, 1), (59, 2), (59, 3), (59, 4), (59, 5), (59, 6), (59, 7)] m0 m ∧ zR_K54 m ∧ ((-2) ≤ v ∧ v ≤ 15))) := by
  intro k
  induction k with
  | zero => exact ⟨fun x2 mh hImh hFmh hba1 hbx2 hRK54mh hM => by exfalso; omega, fun x2 x3 mh hImh hFmh hba1 hbx2 hbx3 hg3 hRK54mh hM => by exfalso; omega⟩
  | succ k ih =>
    refine ⟨?_, ?_⟩
    · intro x2 mh hImh hFmh hba1 hbx2 hRK54mh hM
      refine zw_eq (zu_rega_at (zt_T n) (zm_241 n) (zdp_241 n) _ _ _ _ _ _ (zr_241_2 n _ _ a0 a1 x2 mh)) ?_
      have r1 : 0 ≤ (mh a0 4) ∧ (mh a0 4) ≤ 4 := zi_rd hImh hc0 zb_16_4
      refine zw_ite (fun h2 => ?_) (fun h2 => ?_)
      · exact zw_some ⟨hImh, hFmh, hRK54mh, ⟨by omega, by omega⟩⟩
      · have w3 := zu_w32_id (z := x2 + 1) (by omega) (by omega)
        have hM : (4 - (zu_w32 (x2 + 1))) * 1 + (4 - x2) * 5 + 0 < (k : Int) := by omega
        exact ih.2 x2 (zu_w32 (x2 + 1)) mh hImh hFmh ⟨by omega, by omega⟩ ⟨by omega, by omega⟩ ⟨by omega, by omega⟩ ⟨by omega, by omega⟩ hRK54mh hM
    · intro x2 x3 mh hImh hFmh hba1 hbx2 hbx3 hg3 hRK54mh hM
      refine zw_eq (zu_rega_at (zt_T n) (zm_241 n) (zdp_241 n) _ _ _ _ _ _ (zr_241_14 n _ _ a0 a1 x2 x3 mh)) ?_
      refine zw_ite (fun h4 => ?_) (fun h4 => ?_)
      · have w5 := zu_w32_id (z := x2 + 1) (by omega) (by omega)
        have hM : (4 - (zu_w32 (x2 + 1))) * 5 + 4 < (k : Int) := by omega
        exact zw_le (zu_forget (zu_lr_same (zu_lr_same (zu_lr_same (zu_lr_drop (zu_lr_same zu_lr_nil)))))) (ih.1 (zu_w32 (x2 + 1)) mh hImh hFmh ⟨by omega, by omega⟩ ⟨by omega, by omega⟩ hRK54mh hM)
      · refine zw_bd (zw_mono (zk_242 n hImh hc0 ⟨by omega, by omega⟩ ⟨by omega, by omega⟩ hRK54mh) (fun v7 m6 hqm6 => ?_))
        obtain ⟨hIm6, hfm6, hvm6⟩ := hqm6
        have hFm6 := zfr_tr hFmh hfm6 rfl
        obtain ⟨hRK54m6, hvm6⟩ := hvm6
        refine zw_ite (fun h8 => ?_) (fun h8 => ?_)
        · have w9 := zu_w32_id (z := x3 + 1) (by omega) (by omega)
          have r10 : 0 ≤ (m6 a0 4) ∧ (m6 a0 4) ≤ 4 := zi_rd hIm6 hc0 zb_16_4
          have e11 : (m6 a0 4) = (mh a0 4) := (zfr_ap hfm6 hc0 rfl)
          have hM : (4 - (zu_w32 (x3 + 1))) * 1 + (4 - x2) * 5 + 0 < (k : Int) := by omega
          exact zw_le (zu_forget (zu_lr_same (zu_lr_same (zu_lr_same (zu_lr_same (zu_lr_drop zu_lr_nil)))))) (ih.2 x2 (zu_w32 (x3 + 1)) m6 hIm6 hFm6 ⟨by omega, by omega⟩ ⟨by omega, by omega⟩ ⟨by omega, by omega⟩ ⟨by omega, by omega⟩ hRK54m6 hM)
        · refine zw_ite (fun h12 => ?_) (fun h12 => ?_)
          · exact zw_some ⟨hIm6, hFm6, hRK54m6, ⟨by omega, by omega⟩⟩
          · refine zw_ite (fun h13 => ?_) (fun h13 => ?_)
            · exact zw_some ⟨hIm6, hFm6, hRK54m6, ⟨by omega, by omega⟩⟩
            · refine zw_ite (fun h14 => ?_) (fun h14 => ?_)
              · refine zw_nif (by omega) ?_
                have d15 : Int.tdiv v7 16 = v7 / 16 := Int.tdiv_eq_ediv_of_nonneg (by omega)
                have w16 := zu_w32_id (z := Int.tdiv v7 16) (by omega) (by omega)
                exact zw_some ⟨hIm6, hFm6, hRK54m6, ⟨by omega, by omega⟩⟩
              · refine zw_nif (by omega) ?_
                have d17 : Int.tmod v7 16 = v7 % 16 := Int.tmod_eq_emod_of_nonneg (by omega)
                exact zw_some ⟨hIm6, hFm6, hRK54m6, ⟨by omega, by omega⟩⟩
set_option maxHeartbeats 4000000 in
theorem zk_241 (n : Nat) {a0 a1 : Int} {m0 : zu_m} (hIm0 : zi_I m0) (hc0 : zcls a0 = 16) (ha1 : 0 ≤ a1 ∧ a1 ≤ 3)    (hRK54m0 : zR_K54 m0) : zw (zu_call (zt_T n) 241 [(27, a0), (0, a1)] m0) (fun v m => zi_I m ∧ zfr [(56, 0), (59, 1), (59, 2), (59, 3), (59, 4), (59, 5), (59, 6), (59, 7)] m0 m ∧ zR_K54 m ∧ ((-2) ≤ v ∧ v ≤ 15)) := by
  have hFm0 : zfr [(56, 0), (59, 1), (59, 2), (59, 3), (59, 4), (59, 5), (59, 6), (59, 7)] m0 m0 := zfr_rf _ _
  refine zw_eq (zu_call_at (zt_T n) (zm_241 n) (zdp_241 n) _ _ _ _ _ rfl (zr_241_0 n _ _ a0 a1 m0)) ?_
  have hM : (4 - 0) * 5 + 4 < ((25 : Nat) : Int) := by omega
  exact (zl_241 n (m0 := m0) hc0 25).1 0 m0 hIm0 hFm0 ⟨by omega, by omega⟩ ⟨by omega, by omega⟩ hRK54m0 hM
set_option maxHeartbeats 4000000 in
theorem zk_258 (n : Nat) {a0 : Int} {m0 : zu_m} (hIm0 : zi_I m0) (hc0 : zcls a0 = 3)   (he0 : 1 ≤ m0 45 4 ∧ m0 45 4 ≤ 5)  (hRBNm0 : zR_BN m0) (hRK10m0 : zR_K10 m0) : zw (zu_call (zt_T n) 258 [(7, a0)] m0) (fun v m => zi_I m ∧ zfr [(3, 5), (3, 6), (3, 7), (3, 8), (3, 9), (3, 10), (3, 11), (4, 1), (4, 2), (4, 3), (4, 4), (4, 5), (4, 6), (5, 6), (5, 7), (6, 3), (6, 5), (6, 11), (6, 12), (7, 1), (7, 2), (7, 3), (7, 4), (8, 1), (8, 2), (8, 3), (8, 4), (8, 5), (8, 6), (8, 7), (9, 4), (9, 5), (9, 6), (9, 7), (10, 4), (10, 5), (10, 7), (10, 8), (30, 0), (31, 0), (32, 0), (33, 0), (34, 0), (35, 0), (36, 0), (47, 0), (48, 0)] m0 m ∧ zR_BN m ∧ zR_K10 m ∧ (0 ≤ v ∧ v ≤ 1)) := by
  have hFm0 : zfr [(3, 5), (3, 6), (3, 7), (3, 8), (3, 9), (3, 10), (3, 11), (4, 1), (4, 2), (4, 3), (4, 4), (4, 5), (4, 6), (5, 6), (5, 7), (6, 3), (6, 5), (6, 11), (6, 12), (7, 1), (7, 2), (7, 3), (7, 4), (8, 1), (8, 2), (8, 3), (8, 4), (8, 5), (8, 6), (8, 7), (9, 4), (9, 5), (9, 6), (9, 7), (10, 4), (10, 5), (10, 7), (10, 8), (30, 0), (31, 0), (32, 0), (33, 0), (34, 0), (35, 0), (36, 0), (47, 0), (48, 0)] m0 m0 := zfr_rf _ _
  refine zw_eq (zu_call_at (zt_T n) (zm_258 n) (zdp_258 n) _ _ _ _ _ rfl (zr_258_0 n _ _ a0 m0)) ?_
  refine zw_bd (zw_eq (zu_call_at (zt_T n) (zm_279 n) (zdp_279 n) _ _ _ _ _ rfl (zr_279_0 n _ _ 45 0 12 m0)) ?_)
  refine zw_ite (fun h1 => ?_) (fun h1 => ?_)
  · refine zw_b (by omega) ?_
    refine zw_some ?_
    refine zw_ite (fun h2 => ?_) (fun h2 => ?_)
    · exfalso; omega
    · refine zw_bd (zw_eq (zu_call_at (zt_T n) (zm_257 n) (zdp_257 n) _ _ _ _ _ rfl (zr_257_0 n _ _ a0 1 m0)) ?_)
      generalize hmm3 : zu_up m0 a0 9 1 = m3
      have hIm3 := zi_up hmm3 hIm0 hc0 zb_3_9 (by omega) (by omega)
      have hFm3 := zfr_up hmm3 hFm0 hc0 rfl
      have hRBNm3 := zR_BN_fr (zdis_fr (zfr_up hmm3 (zfr_rf [(3, 10)] _) hc0 rfl) rfl) hRBNm0
      have hRK10m3 := zR_K10_fr (zdis_fr (zfr_up hmm3 (zfr_rf [(3, 10)] _) hc0 rfl) rfl) hRK10m0
      have r4 : 0 ≤ (m3 45 6) ∧ (m3 45 6) ≤ 700 := zi_rd hIm3 zq_45 zb_9_6
      generalize hmm5 : zu_up m3 a0 10 (m3 45 6) = m5
      have hIm5 := zi_up hmm5 hIm3 hc0 zb_3_10 (by omega) (by omega)
      have hFm5 := zfr_up hmm5 hFm3 hc0 rfl
      have hRBNm5 := zR_BN_fr (zdis_fr (zfr_up hmm5 (zfr_rf [(3, 11)] _) hc0 rfl) rfl) hRBNm3
      have hRK10m5 := zR_K10_fr (zdis_fr (zfr_up hmm5 (zfr_rf [(3, 11)] _) hc0 rfl) rfl) hRK10m3
      refine zw_b (by omega) ?_
      refine zw_some ?_
      refine zw_b (by omega) ?_
      exact zw_some ⟨hIm5, hFm5, hRBNm5, hRK10m5, ⟨by omega, by omega⟩⟩
  · have r6 : (-2147483648) ≤ (m0 45 5) ∧ (m0 45 5) ≤ 2147483647 := zi_rd hIm0 zq_45 zb_9_5
    refine zw_ite (fun h7 => ?_) (fun h7 => ?_)
    · refine zw_b (by omega) ?_
      refine zw_some ?_
      refine zw_ite (fun h8 => ?_) (fun h8 => ?_)
      · exfalso; omega
      · refine zw_bd (zw_eq (zu_call_at (zt_T n) (zm_257 n) (zdp_257 n) _ _ _ _ _ rfl (zr_257_0 n _ _ a0 1 m0)) ?_)
        generalize hmm9 : zu_up m0 a0 9 1 = m9
        have hIm9 := zi_up hmm9 hIm0 hc0 zb_3_9 (by omega) (by omega)
        have hFm9 := zfr_up hmm9 hFm0 hc0 rfl
        have hRBNm9 := zR_BN_fr (zdis_fr (zfr_up hmm9 (zfr_rf [(3, 10)] _) hc0 rfl) rfl) hRBNm0
        have hRK10m9 := zR_K10_fr (zdis_fr (zfr_up hmm9 (zfr_rf [(3, 10)] _) hc0 rfl) rfl) hRK10m0
        have r10 : 0 ≤ (m9 45 6) ∧ (m9 45 6) ≤ 700 := zi_rd hIm9 zq_45 zb_9_6
        generalize hmm11 : zu_up m9 a0 10 (m9 45 6) = m11
        have hIm11 := zi_up hmm11 hIm9 hc0 zb_3_10 (by omega) (by omega)
        have hFm11 := zfr_up hmm11 hFm9 hc0 rfl
        have hRBNm11 := zR_BN_fr (zdis_fr (zfr_up hmm11 (zfr_rf [(3, 11)] _) hc0 rfl) rfl) hRBNm9
        have hRK10m11 := zR_K10_fr (zdis_fr (zfr_up hmm11 (zfr_rf [(3, 11)] _) hc0 rfl) rfl) hRK10m9
        refine zw_b (by omega) ?_
        refine zw_some ?_
        refine zw_b (by omega) ?_
        exact zw_some ⟨hIm11, hFm11, hRBNm11, hRK10m11, ⟨by omega, by omega⟩⟩
    · have w12 := zu_w32_id (z := 0 + 12) (by omega) (by omega)
      refine zw_ite (fun h13 => ?_) (fun h13 => ?_)
      · refine zw_b (by omega) ?_
        refine zw_some ?_
        refine zw_ite (fun h14 => ?_) (fun h14 => ?_)
        · exfalso; omega
        · refine zw_bd (zw_eq (zu_call_at (zt_T n) (zm_257 n) (zdp_257 n) _ _ _ _ _ rfl (zr_257_0 n _ _ a0 1 m0)) ?_)
          generalize hmm15 : zu_up m0 a0 9 1 = m15
          have hIm15 := zi_up hmm15 hIm0 hc0 zb_3_9 (by omega) (by omega)
          have hFm15 := zfr_up hmm15 hFm0 hc0 rfl
          have hRBNm15 := zR_BN_fr (zdis_fr (zfr_up hmm15 (zfr_rf [(3, 10)] _) hc0 rfl) rfl) hRBNm0
          have hRK10m15 := zR_K10_fr (zdis_fr (zfr_up hmm15 (zfr_rf [(3, 10)] _) hc0 rfl) rfl) hRK10m0
          have r16 : 0 ≤ (m15 45 6) ∧ (m15 45 6) ≤ 700 := zi_rd hIm15 zq_45 zb_9_6
          generalize hmm17 : zu_up m15 a0 10 (m15 45 6) = m17
          have hIm17 := zi_up hmm17 hIm15 hc0 zb_3_10 (by omega) (by omega)
          have hFm17 := zfr_up hmm17 hFm15 hc0 rfl
          have hRBNm17 := zR_BN_fr (zdis_fr (zfr_up hmm17 (zfr_rf [(3, 11)] _) hc0 rfl) rfl) hRBNm15
          have hRK10m17 := zR_K10_fr (zdis_fr (zfr_up hmm17 (zfr_rf [(3, 11)] _) hc0 rfl) rfl) hRK10m15
          refine zw_b (by omega) ?_
          refine zw_some ?_
          refine zw_b (by omega) ?_
          exact zw_some ⟨hIm17, hFm17, hRBNm17, hRK10m17, ⟨by omega, by omega⟩⟩
      · refine zw_b (by omega) ?_
        refine zw_some ?_
        refine zw_ite (fun h18 => ?_) (fun h18 => ?_)
        · refine zw_ite (fun h19 => ?_) (fun h19 => ?_)
          · refine zw_bd (zw_mono (zk_264 n hIm0 hc0) (fun v21 m20 hqm20 => ?_))
            obtain ⟨hIm20, hfm20, hvm20⟩ := hqm20
            have hFm20 := zfr_tr hFm0 hfm20 rfl
            have hRBNm20 := zR_BN_fr (zdis_fr hfm20 rfl) hRBNm0
            have hRK10m20 := zR_K10_fr (zdis_fr hfm20 rfl) hRK10m0
            refine zw_ite (fun h22 => ?_) (fun h22 => ?_)
            · refine zw_b (by omega) ?_
              exact zw_some ⟨hIm20, hFm20, hRBNm20, hRK10m20, ⟨by omega, by omega⟩⟩
            · refine zw_bd (zw_mono (zk_259 n hIm20 hc0) (fun v24 m23 hqm23 => ?_))
              obtain ⟨hIm23, hfm23, hvm23⟩ := hqm23
              have hFm23 := zfr_tr hFm20 hfm23 rfl
              obtain ⟨hRTVm23, hvm23⟩ := hvm23
              have hRBNm23 := zR_BN_fr (zdis_fr hfm23 rfl) hRBNm20
              have hRK10m23 := zR_K10_fr (zdis_fr hfm23 rfl) hRK10m20
              have s25 := hRTVm23 45 zq_45
              refine zw_ite (fun h26 => ?_) (fun h26 => ?_)
              · refine zw_b (by omega) ?_
                exact zw_some ⟨hIm23, hFm23, hRBNm23, hRK10m23, ⟨by omega, by omega⟩⟩
              · refine zw_b (by omega) ?_
                exact zw_some ⟨hIm23, hFm23, hRBNm23, hRK10m23, ⟨by omega, by omega⟩⟩
          · refine zw_ite (fun h27 => ?_) (fun h27 => ?_)
            · refine zw_bd (zw_mono (zk_266 n hIm0 hc0 ⟨by omega, by omega⟩ ⟨by omega, by omega⟩) (fun v29 m28 hqm28 => ?_))
              obtain ⟨hIm28, hfm28, hvm28⟩ := hqm28
              have hFm28 := zfr_tr hFm0 hfm28 rfl
              have hRBNm28 := zR_BN_fr (zdis_fr hfm28 rfl) hRBNm0
              have hRK10m28 := zR_K10_fr (zdis_fr hfm28 rfl) hRK10m0
              refine zw_ite (fun h30 => ?_) (fun h30 => ?_)
              · refine zw_b (by omega) ?_
                exact zw_some ⟨hIm28, hFm28, hRBNm28, hRK10m28, ⟨by omega, by omega⟩⟩
              · refine zw_bd (zw_mono (zk_259 n hIm28 hc0) (fun v32 m31 hqm31 => ?_))
                obtain ⟨hIm31, hfm31, hvm31⟩ := hqm31
                have hFm31 := zfr_tr hFm28 hfm31 rfl
                obtain ⟨hRTVm31, hvm31⟩ := hvm31
                have hRBNm31 := zR_BN_fr (zdis_fr hfm31 rfl) hRBNm28
                have hRK10m31 := zR_K10_fr (zdis_fr hfm31 rfl) hRK10m28
                have s33 := hRTVm31 45 zq_45
                refine zw_ite (fun h34 => ?_) (fun h34 => ?_)
                · refine zw_b (by omega) ?_
                  exact zw_some ⟨hIm31, hFm31, hRBNm31, hRK10m31, ⟨by omega, by omega⟩⟩
                · refine zw_b (by omega) ?_
                  exact zw_some ⟨hIm31, hFm31, hRBNm31, hRK10m31, ⟨by omega, by omega⟩⟩
            · refine zw_ite (fun h35 => ?_) (fun h35 => ?_)
              · refine zw_bd (zw_mono (zk_267 n hIm0 hc0 ⟨by omega, by omega⟩ ⟨by omega, by omega⟩) (fun v37 m36 hqm36 => ?_))
                obtain ⟨hIm36, hfm36, hvm36⟩ := hqm36
                have hFm36 := zfr_tr hFm0 hfm36 rfl
                have hRBNm36 := zR_BN_fr (zdis_fr hfm36 rfl) hRBNm0
                have hRK10m36 := zR_K10_fr (zdis_fr hfm36 rfl) hRK10m0
                refine zw_ite (fun h38 => ?_) (fun h38 => ?_)
                · refine zw_b (by omega) ?_
                  exact zw_some ⟨hIm36, hFm36, hRBNm36, hRK10m36, ⟨by omega, by omega⟩⟩
                · refine zw_bd (zw_mono (zk_259 n hIm36 hc0) (fun v40 m39 hqm39 => ?_))
                  obtain ⟨hIm39, hfm39, hvm39⟩ := hqm39
                  have hFm39 := zfr_tr hFm36 hfm39 rfl
                  obtain ⟨hRTVm39, hvm39⟩ := hvm39
                  have hRBNm39 := zR_BN_fr (zdis_fr hfm39 rfl) hRBNm36
                  have hRK10m39 := zR_K10_fr (zdis_fr hfm39 rfl) hRK10m36
                  have s41 := hRTVm39 45 zq_45
                  refine zw_ite (fun h42 => ?_) (fun h42 => ?_)
                  · refine zw_b (by omega) ?_
                    exact zw_some ⟨hIm39, hFm39, hRBNm39, hRK10m39, ⟨by omega, by omega⟩⟩
                  · refine zw_b (by omega) ?_
                    exact zw_some ⟨hIm39, hFm39, hRBNm39, hRK10m39, ⟨by omega, by omega⟩⟩
              · refine zw_ite (fun h43 => ?_) (fun h43 => ?_)
                · refine zw_bd (zw_mono (zk_270 n hIm0 hc0 ⟨by omega, by omega⟩ ⟨by omega, by omega⟩ hRBNm0 hRK10m0) (fun v45 m44 hqm44 => ?_))
                  obtain ⟨hIm44, hfm44, hvm44⟩ := hqm44
                  have hFm44 := zfr_tr hFm0 hfm44 rfl
                  obtain ⟨hRBNm44, hRK10m44, hvm44⟩ := hvm44
                  refine zw_b (by omega) ?_
                  exact zw_some ⟨hIm44, hFm44, hRBNm44, hRK10m44, ⟨by omega, by omega⟩⟩
                · refine zw_ite (fun h46 => ?_) (fun h46 => ?_)
                  · refine zw_bd (zw_mono (zk_268 n hIm0 hc0 ⟨by omega, by omega⟩) (fun v48 m47 hqm47 => ?_))
                    obtain ⟨hIm47, hfm47, hvm47⟩ := hqm47
                    have hFm47 := zfr_tr hFm0 hfm47 rfl
                    have hRBNm47 := zR_BN_fr (zdis_fr hfm47 rfl) hRBNm0
                    have hRK10m47 := zR_K10_fr (zdis_fr hfm47 rfl) hRK10m0
                    refine zw_ite (fun h49 => ?_) (fun h49 => ?_)
                    · refine zw_b (by omega) ?_
                      exact zw_some ⟨hIm47, hFm47, hRBNm47, hRK10m47, ⟨by omega, by omega⟩⟩
                    · refine zw_bd (zw_mono (zk_259 n hIm47 hc0) (fun v51 m50 hqm50 => ?_))
                      obtain ⟨hIm50, hfm50, hvm50⟩ := hqm50
                      have hFm50 := zfr_tr hFm47 hfm50 rfl
                      obtain ⟨hRTVm50, hvm50⟩ := hvm50
                      have hRBNm50 := zR_BN_fr (zdis_fr hfm50 rfl) hRBNm47
                      have hRK10m50 := zR_K10_fr (zdis_fr hfm50 rfl) hRK10m47
                      have s52 := hRTVm50 45 zq_45
                      refine zw_ite (fun h53 => ?_) (fun h53 => ?_)
                      · refine zw_b (by omega) ?_
                        exact zw_some ⟨hIm50, hFm50, hRBNm50, hRK10m50, ⟨by omega, by omega⟩⟩
                      · refine zw_b (by omega) ?_
                        exact zw_some ⟨hIm50, hFm50, hRBNm50, hRK10m50, ⟨by omega, by omega⟩⟩
                  · refine zw_bd (zw_mono (zk_265 n hIm0 hc0 ⟨by omega, by omega⟩) (fun v55 m54 hqm54 => ?_))
                    obtain ⟨hIm54, hfm54, hvm54⟩ := hqm54
                    have hFm54 := zfr_tr hFm0 hfm54 rfl
                    have hRBNm54 := zR_BN_fr (zdis_fr hfm54 rfl) hRBNm0
                    have hRK10m54 := zR_K10_fr (zdis_fr hfm54 rfl) hRK10m0
                    refine zw_ite (fun h56 => ?_) (fun h56 => ?_)
                    · refine zw_b (by omega) ?_
                      exact zw_some ⟨hIm54, hFm54, hRBNm54, hRK10m54, ⟨by omega, by omega⟩⟩
                    · refine zw_bd (zw_mono (zk_259 n hIm54 hc0) (fun v58 m57 hqm57 => ?_))
                      obtain ⟨hIm57, hfm57, hvm57⟩ := hqm57
                      have hFm57 := zfr_tr hFm54 hfm57 rfl
                      obtain ⟨hRTVm57, hvm57⟩ := hvm57
                      have hRBNm57 := zR_BN_fr (zdis_fr hfm57 rfl) hRBNm54
                      have hRK10m57 := zR_K10_fr (zdis_fr hfm57 rfl) hRK10m54
                      have s59 := hRTVm57 45 zq_45
                      refine zw_ite (fun h60 => ?_) (fun h60 => ?_)
                      · refine zw_b (by omega) ?_
                        exact zw_some ⟨hIm57, hFm57, hRBNm57, hRK10m57, ⟨by omega, by omega⟩⟩
                      · refine zw_b (by omega) ?_
                        exact zw_some ⟨hIm57, hFm57, hRBNm57, hRK10m57, ⟨by omega, by omega⟩⟩
        · exfalso; omega

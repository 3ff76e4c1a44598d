set_option maxHeartbeats 4000000 in
theorem zl_18 (n : Nat) {a0 : Int} {m0 : zu_m} (hc0 : zcls a0 = 9)   : ∀ k : Nat, (∀ (mh : zu_m), zi_I mh → zfr [(9, 4), (9, 5), (9, 6), (9, 7)] m0 mh → (700 - (mh a0 3)) * 1 + 0 < (k : Int) → zw (zu_ex (zt_T n) 18 0 [(22, a0)] [] mh) (fun v m => zi_I m ∧ zfr [(9, 4), (9, 5), (9, 6), (9, 7)] m0 m ∧ zR_TV m ∧ True)) := by
  intro k
  induction k with
  | zero => exact fun mh hImh hFmh hM => by have zq0 := zi_rd hImh hc0 zb_9_3; exfalso; omega
  | succ k ih =>
    intro mh hImh hFmh hM
    refine zw_eq (zu_rega_at (zt_T n) (zm_18 n) (zdp_18 n) _ _ _ _ _ _ (zr_18_0 n _ _ a0 mh)) ?_
    have r1 : 0 ≤ (mh a0 3) ∧ (mh a0 3) ≤ 700 := zi_rd hImh hc0 zb_9_3
    have r2 : 0 ≤ (mh a0 2) ∧ (mh a0 2) ≤ 700 := zi_rd hImh hc0 zb_9_2
    refine zw_ite (fun h3 => ?_) (fun h3 => ?_)
    · generalize hmm4 : zu_up mh a0 6 (mh a0 3) = m4
      have hIm4 := zi_up hmm4 hImh hc0 zb_9_6 (by omega) (by omega)
      have hFm4 := zfr_up hmm4 hFmh hc0 rfl
      have r5 : 0 ≤ (m4 a0 3) ∧ (m4 a0 3) ≤ 700 := zi_rd hIm4 hc0 zb_9_3
      have e6 : (m4 a0 3) = (mh a0 3) := (zs_ne hmm4 (Or.inr (by decide)))
      have r7 : 0 ≤ (m4 a0 2) ∧ (m4 a0 2) ≤ 700 := zi_rd hIm4 hc0 zb_9_2
      have e8 : (m4 a0 2) = (mh a0 2) := (zs_ne hmm4 (Or.inr (by decide)))
      refine zw_ite (fun h9 => ?_) (fun h9 => ?_)
      · exfalso; omega
      · generalize hmm10 : zu_up m4 a0 4 0 = m10
        have hIm10 := zi_up hmm10 hIm4 hc0 zb_9_4 (by omega) (by omega)
        have hFm10 := zfr_up hmm10 hFm4 hc0 rfl
        have r11 : 0 ≤ (m10 a0 4) ∧ (m10 a0 4) ≤ 5 := zi_rd hIm10 hc0 zb_9_4
        have e12 : (m10 a0 4) = 0 := (zs_eq hmm10)
        have r13 : (-2147483648) ≤ (m10 a0 5) ∧ (m10 a0 5) ≤ 2147483647 := zi_rd hIm10 hc0 zb_9_5
        have hRTVm10 := zR_TV_of hc0 (show m10 a0 4 = 4 → (0 ≤ m10 a0 5 ∧ m10 a0 5 ≤ 12) by omega)
        exact zw_some ⟨hIm10, hFm10, hRTVm10, trivial⟩
    · have b14 : 0 ≤ (mh a0 3) ∧ (mh a0 3) < 700 := by omega
      refine zw_if b14 ?_
      have r15 : (-2147483648) ≤ (mh 4 (mh a0 3)) ∧ (mh 4 (mh a0 3)) ≤ 2147483647 := zi_rd hImh zq_4 (zb_29 _)
      refine zw_ite (fun h16 => ?_) (fun h16 => ?_)
      · have w17 := zu_w32_id (z := (mh a0 3) + 1) (by omega) (by omega)
        generalize hmm18 : zu_up mh a0 3 (zu_w32 ((mh a0 3) + 1)) = m18
        have hIm18 := zi_up hmm18 hImh hc0 zb_9_3 (by omega) (by omega)
        have hFm18 := zfr_up hmm18 hFmh hc0 rfl
        have r19 : 0 ≤ (m18 a0 3) ∧ (m18 a0 3) ≤ 700 := zi_rd hIm18 hc0 zb_9_3
        have e20 : (m18 a0 3) = (zu_w32 ((mh a0 3) + 1)) := (zs_eq hmm18)
        have hM : (700 - (m18 a0 3)) * 1 + 0 < (k : Int) := by omega
        exact ih  m18 hIm18 hFm18  hM
      · have b21 : 0 ≤ (mh a0 3) ∧ (mh a0 3) < 700 := by omega
        refine zw_if b21 ?_
        refine zw_ite (fun h22 => ?_) (fun h22 => ?_)
        · generalize hmm23 : zu_up mh a0 6 (mh a0 3) = m23
          have hIm23 := zi_up hmm23 hImh hc0 zb_9_6 (by omega) (by omega)
          have hFm23 := zfr_up hmm23 hFmh hc0 rfl
          have r24 : 0 ≤ (m23 a0 3) ∧ (m23 a0 3) ≤ 700 := zi_rd hIm23 hc0 zb_9_3
          have e25 : (m23 a0 3) = (mh a0 3) := (zs_ne hmm23 (Or.inr (by decide)))
          have r26 : 0 ≤ (m23 a0 2) ∧ (m23 a0 2) ≤ 700 := zi_rd hIm23 hc0 zb_9_2
          have e27 : (m23 a0 2) = (mh a0 2) := (zs_ne hmm23 (Or.inr (by decide)))
          refine zw_ite (fun h28 => ?_) (fun h28 => ?_)
          · have b29 : 0 ≤ (m23 a0 3) ∧ (m23 a0 3) < 700 := by omega
            refine zw_if b29 ?_
            have r30 : (-2147483648) ≤ (m23 4 (m23 a0 3)) ∧ (m23 4 (m23 a0 3)) ≤ 2147483647 := zi_rd hIm23 zq_4 (zb_29 _)
            refine zw_ite (fun h31 => ?_) (fun h31 => ?_)
            · have b32 : 0 ≤ (m23 a0 3) ∧ (m23 a0 3) < 700 := by omega
              refine zw_if b32 ?_
              refine zw_ite (fun h33 => ?_) (fun h33 => ?_)
              · have b34 : 0 ≤ (m23 a0 3) ∧ (m23 a0 3) < 700 := by omega
                refine zw_if b34 ?_
                refine zw_bd (zw_mono (zk_283 n hIm23 ⟨by omega, by omega⟩) (fun v36 m35 hqm35 => ?_))
                obtain ⟨hIm35, hfm35, hvm35⟩ := hqm35
                have hFm35 := zfr_tr hFm23 hfm35 rfl
                generalize hmm37 : zu_up m35 a0 5 v36 = m37
                have hIm37 := zi_up hmm37 hIm35 hc0 zb_9_5 (by omega) (by omega)
                have hFm37 := zfr_up hmm37 hFm35 hc0 rfl
                have r38 : (-2147483648) ≤ (m37 a0 5) ∧ (m37 a0 5) ≤ 2147483647 := zi_rd hIm37 hc0 zb_9_5
                have e39 : (m37 a0 5) = v36 := (zs_eq hmm37)
                refine zw_ite (fun h40 => ?_) (fun h40 => ?_)
                · generalize hmm41 : zu_up m37 a0 4 4 = m41
                  have hIm41 := zi_up hmm41 hIm37 hc0 zb_9_4 (by omega) (by omega)
                  have hFm41 := zfr_up hmm41 hFm37 hc0 rfl
                  have r42 : 0 ≤ (m41 a0 3) ∧ (m41 a0 3) ≤ 700 := zi_rd hIm41 hc0 zb_9_3
                  have e43 : (m41 a0 3) = (m23 a0 3) := (Eq.trans (zs_ne hmm41 (Or.inr (by decide))) (Eq.trans (zs_ne hmm37 (Or.inr (by decide))) (zfr_ap hfm35 hc0 rfl)))
                  have w44 := zu_w32_id (z := (m41 a0 3) + 1) (by omega) (by omega)
                  generalize hmm45 : zu_up m41 a0 3 (zu_w32 ((m41 a0 3) + 1)) = m45
                  have hIm45 := zi_up hmm45 hIm41 hc0 zb_9_3 (by omega) (by omega)
                  have hFm45 := zfr_up hmm45 hFm41 hc0 rfl
                  have r46 : (-2147483648) ≤ (m45 a0 5) ∧ (m45 a0 5) ≤ 2147483647 := zi_rd hIm45 hc0 zb_9_5
                  have e47 : (m45 a0 5) = (m37 a0 5) := (Eq.trans (zs_ne hmm45 (Or.inr (by decide))) (zs_ne hmm41 (Or.inr (by decide))))
                  have r48 : 0 ≤ (m45 a0 3) ∧ (m45 a0 3) ≤ 700 := zi_rd hIm45 hc0 zb_9_3
                  have e49 : (m45 a0 3) = (zu_w32 ((m41 a0 3) + 1)) := (zs_eq hmm45)
                  have r50 : 0 ≤ (m45 a0 2) ∧ (m45 a0 2) ≤ 700 := zi_rd hIm45 hc0 zb_9_2
                  have e51 : (m45 a0 2) = (m23 a0 2) := (Eq.trans (zs_ne hmm45 (Or.inr (by decide))) (Eq.trans (zs_ne hmm41 (Or.inr (by decide))) (Eq.trans (zs_ne hmm37 (Or.inr (by decide))) (zfr_ap hfm35 hc0 rfl))))
                  refine zw_bd (zw_mono (zk_282 n hIm45 hc0 ⟨by omega, by omega⟩ ⟨by omega, by omega⟩ ⟨by omega, by omega⟩) (fun v53 m52 hqm52 => ?_))
                  obtain ⟨hIm52, hfm52, hvm52⟩ := hqm52
                  have hFm52 := zfr_tr hFm45 hfm52 rfl
                  have r54 : 0 ≤ (m52 a0 4) ∧ (m52 a0 4) ≤ 5 := zi_rd hIm52 hc0 zb_9_4
                  have e55 : (m52 a0 4) = 4 := (Eq.trans (zfr_ap hfm52 hc0 rfl) (Eq.trans (zs_ne hmm45 (Or.inr (by decide))) (zs_eq hmm41)))
                  have hRTVm52 := zR_TV_of hc0 (show m52 a0 4 = 4 → (0 ≤ m52 a0 5 ∧ m52 a0 5 ≤ 12) by omega)
                  exact zw_some ⟨hIm52, hFm52, hRTVm52, trivial⟩
                · generalize hmm56 : zu_up m37 a0 4 5 = m56
                  have hIm56 := zi_up hmm56 hIm37 hc0 zb_9_4 (by omega) (by omega)
                  have hFm56 := zfr_up hmm56 hFm37 hc0 rfl
                  have r57 : 0 ≤ (m56 a0 3) ∧ (m56 a0 3) ≤ 700 := zi_rd hIm56 hc0 zb_9_3
                  have e58 : (m56 a0 3) = (m23 a0 3) := (Eq.trans (zs_ne hmm56 (Or.inr (by decide))) (Eq.trans (zs_ne hmm37 (Or.inr (by decide))) (zfr_ap hfm35 hc0 rfl)))
                  have w59 := zu_w32_id (z := (m56 a0 3) + 1) (by omega) (by omega)
                  generalize hmm60 : zu_up m56 a0 3 (zu_w32 ((m56 a0 3) + 1)) = m60
                  have hIm60 := zi_up hmm60 hIm56 hc0 zb_9_3 (by omega) (by omega)
                  have hFm60 := zfr_up hmm60 hFm56 hc0 rfl
                  have r61 : (-2147483648) ≤ (m60 a0 5) ∧ (m60 a0 5) ≤ 2147483647 := zi_rd hIm60 hc0 zb_9_5
                  have e62 : (m60 a0 5) = (m37 a0 5) := (Eq.trans (zs_ne hmm60 (Or.inr (by decide))) (zs_ne hmm56 (Or.inr (by decide))))
                  have r63 : 0 ≤ (m60 a0 3) ∧ (m60 a0 3) ≤ 700 := zi_rd hIm60 hc0 zb_9_3
                  have e64 : (m60 a0 3) = (zu_w32 ((m56 a0 3) + 1)) := (zs_eq hmm60)
                  have r65 : 0 ≤ (m60 a0 2) ∧ (m60 a0 2) ≤ 700 := zi_rd hIm60 hc0 zb_9_2
                  have e66 : (m60 a0 2) = (m23 a0 2) := (Eq.trans (zs_ne hmm60 (Or.inr (by decide))) (Eq.trans (zs_ne hmm56 (Or.inr (by decide))) (Eq.trans (zs_ne hmm37 (Or.inr (by decide))) (zfr_ap hfm35 hc0 rfl))))
                  refine zw_bd (zw_mono (zk_282 n hIm60 hc0 ⟨by omega, by omega⟩ ⟨by omega, by omega⟩ ⟨by omega, by omega⟩) (fun v68 m67 hqm67 => ?_))
                  obtain ⟨hIm67, hfm67, hvm67⟩ := hqm67
                  have hFm67 := zfr_tr hFm60 hfm67 rfl
                  have r69 : 0 ≤ (m67 a0 4) ∧ (m67 a0 4) ≤ 5 := zi_rd hIm67 hc0 zb_9_4
                  have e70 : (m67 a0 4) = 5 := (Eq.trans (zfr_ap hfm67 hc0 rfl) (Eq.trans (zs_ne hmm60 (Or.inr (by decide))) (zs_eq hmm56)))
                  have hRTVm67 := zR_TV_of hc0 (show m67 a0 4 = 4 → (0 ≤ m67 a0 5 ∧ m67 a0 5 ≤ 12) by omega)
                  exact zw_some ⟨hIm67, hFm67, hRTVm67, trivial⟩
              · have b71 : 0 ≤ (m23 a0 3) ∧ (m23 a0 3) < 700 := by omega
                refine zw_if b71 ?_
                refine zw_ite (fun h72 => ?_) (fun h72 => ?_)
                · have b73 : 0 ≤ (m23 a0 3) ∧ (m23 a0 3) < 700 := by omega
                  refine zw_if b73 ?_
                  refine zw_bd (zw_mono (zk_283 n hIm23 ⟨by omega, by omega⟩) (fun v75 m74 hqm74 => ?_))
                  obtain ⟨hIm74, hfm74, hvm74⟩ := hqm74
                  have hFm74 := zfr_tr hFm23 hfm74 rfl
                  generalize hmm76 : zu_up m74 a0 5 v75 = m76
                  have hIm76 := zi_up hmm76 hIm74 hc0 zb_9_5 (by omega) (by omega)
                  have hFm76 := zfr_up hmm76 hFm74 hc0 rfl
                  have r77 : (-2147483648) ≤ (m76 a0 5) ∧ (m76 a0 5) ≤ 2147483647 := zi_rd hIm76 hc0 zb_9_5
                  have e78 : (m76 a0 5) = v75 := (zs_eq hmm76)
                  refine zw_ite (fun h79 => ?_) (fun h79 => ?_)
                  · generalize hmm80 : zu_up m76 a0 4 4 = m80
                    have hIm80 := zi_up hmm80 hIm76 hc0 zb_9_4 (by omega) (by omega)
                    have hFm80 := zfr_up hmm80 hFm76 hc0 rfl
                    have r81 : 0 ≤ (m80 a0 3) ∧ (m80 a0 3) ≤ 700 := zi_rd hIm80 hc0 zb_9_3
                    have e82 : (m80 a0 3) = (m23 a0 3) := (Eq.trans (zs_ne hmm80 (Or.inr (by decide))) (Eq.trans (zs_ne hmm76 (Or.inr (by decide))) (zfr_ap hfm74 hc0 rfl)))
                    have w83 := zu_w32_id (z := (m80 a0 3) + 1) (by omega) (by omega)
                    generalize hmm84 : zu_up m80 a0 3 (zu_w32 ((m80 a0 3) + 1)) = m84
                    have hIm84 := zi_up hmm84 hIm80 hc0 zb_9_3 (by omega) (by omega)
                    have hFm84 := zfr_up hmm84 hFm80 hc0 rfl
                    have r85 : (-2147483648) ≤ (m84 a0 5) ∧ (m84 a0 5) ≤ 2147483647 := zi_rd hIm84 hc0 zb_9_5
                    have e86 : (m84 a0 5) = (m76 a0 5) := (Eq.trans (zs_ne hmm84 (Or.inr (by decide))) (zs_ne hmm80 (Or.inr (by decide))))
                    have r87 : 0 ≤ (m84 a0 3) ∧ (m84 a0 3) ≤ 700 := zi_rd hIm84 hc0 zb_9_3
                    have e88 : (m84 a0 3) = (zu_w32 ((m80 a0 3) + 1)) := (zs_eq hmm84)
                    have r89 : 0 ≤ (m84 a0 2) ∧ (m84 a0 2) ≤ 700 := zi_rd hIm84 hc0 zb_9_2
                    have e90 : (m84 a0 2) = (m23 a0 2) := (Eq.trans (zs_ne hmm84 (Or.inr (by decide))) (Eq.trans (zs_ne hmm80 (Or.inr (by decide))) (Eq.trans (zs_ne hmm76 (Or.inr (by decide))) (zfr_ap hfm74 hc0 rfl))))
                    refine zw_bd (zw_mono (zk_282 n hIm84 hc0 ⟨by omega, by omega⟩ ⟨by omega, by omega⟩ ⟨by omega, by omega⟩) (fun v92 m91 hqm91 => ?_))
                    obtain ⟨hIm91, hfm91, hvm91⟩ := hqm91
                    have hFm91 := zfr_tr hFm84 hfm91 rfl
                    have r93 : 0 ≤ (m91 a0 4) ∧ (m91 a0 4) ≤ 5 := zi_rd hIm91 hc0 zb_9_4
                    have e94 : (m91 a0 4) = 4 := (Eq.trans (zfr_ap hfm91 hc0 rfl) (Eq.trans (zs_ne hmm84 (Or.inr (by decide))) (zs_eq hmm80)))
                    have hRTVm91 := zR_TV_of hc0 (show m91 a0 4 = 4 → (0 ≤ m91 a0 5 ∧ m91 a0 5 ≤ 12) by omega)
                    exact zw_some ⟨hIm91, hFm91, hRTVm91, trivial⟩
                  · generalize hmm95 : zu_up m76 a0 4 5 = m95
                    have hIm95 := zi_up hmm95 hIm76 hc0 zb_9_4 (by omega) (by omega)
                    have hFm95 := zfr_up hmm95 hFm76 hc0 rfl
                    have r96 : 0 ≤ (m95 a0 3) ∧ (m95 a0 3) ≤ 700 := zi_rd hIm95 hc0 zb_9_3
                    have e97 : (m95 a0 3) = (m23 a0 3) := (Eq.trans (zs_ne hmm95 (Or.inr (by decide))) (Eq.trans (zs_ne hmm76 (Or.inr (by decide))) (zfr_ap hfm74 hc0 rfl)))
                    have w98 := zu_w32_id (z := (m95 a0 3) + 1) (by omega) (by omega)
                    generalize hmm99 : zu_up m95 a0 3 (zu_w32 ((m95 a0 3) + 1)) = m99
                    have hIm99 := zi_up hmm99 hIm95 hc0 zb_9_3 (by omega) (by omega)
                    have hFm99 := zfr_up hmm99 hFm95 hc0 rfl
                    have r100 : (-2147483648) ≤ (m99 a0 5) ∧ (m99 a0 5) ≤ 2147483647 := zi_rd hIm99 hc0 zb_9_5
                    have e101 : (m99 a0 5) = (m76 a0 5) := (Eq.trans (zs_ne hmm99 (Or.inr (by decide))) (zs_ne hmm95 (Or.inr (by decide))))
                    have r102 : 0 ≤ (m99 a0 3) ∧ (m99 a0 3) ≤ 700 := zi_rd hIm99 hc0 zb_9_3
                    have e103 : (m99 a0 3) = (zu_w32 ((m95 a0 3) + 1)) := (zs_eq hmm99)
                    have r104 : 0 ≤ (m99 a0 2) ∧ (m99 a0 2) ≤ 700 := zi_rd hIm99 hc0 zb_9_2
                    have e105 : (m99 a0 2) = (m23 a0 2) := (Eq.trans (zs_ne hmm99 (Or.inr (by decide))) (Eq.trans (zs_ne hmm95 (Or.inr (by decide))) (Eq.trans (zs_ne hmm76 (Or.inr (by decide))) (zfr_ap hfm74 hc0 rfl))))
                    refine zw_bd (zw_mono (zk_282 n hIm99 hc0 ⟨by omega, by omega⟩ ⟨by omega, by omega⟩ ⟨by omega, by omega⟩) (fun v107 m106 hqm106 => ?_))
                    obtain ⟨hIm106, hfm106, hvm106⟩ := hqm106
                    have hFm106 := zfr_tr hFm99 hfm106 rfl
                    have r108 : 0 ≤ (m106 a0 4) ∧ (m106 a0 4) ≤ 5 := zi_rd hIm106 hc0 zb_9_4
                    have e109 : (m106 a0 4) = 5 := (Eq.trans (zfr_ap hfm106 hc0 rfl) (Eq.trans (zs_ne hmm99 (Or.inr (by decide))) (zs_eq hmm95)))
                    have hRTVm106 := zR_TV_of hc0 (show m106 a0 4 = 4 → (0 ≤ m106 a0 5 ∧ m106 a0 5 ≤ 12) by omega)
                    exact zw_some ⟨hIm106, hFm106, hRTVm106, trivial⟩
                · refine zw_bd (zw_mono (zk_281 n hIm23 hc0) (fun v111 m110 hqm110 => ?_))
                  obtain ⟨hIm110, hfm110, hvm110⟩ := hqm110
                  have hFm110 := zfr_tr hFm23 hfm110 rfl
                  have hRTVm110 := zR_TV_of hc0 (show m110 a0 4 = 4 → (0 ≤ m110 a0 5 ∧ m110 a0 5 ≤ 12) by omega)
                  exact zw_some ⟨hIm110, hFm110, hRTVm110, trivial⟩
            · have b112 : 0 ≤ (m23 a0 3) ∧ (m23 a0 3) < 700 := by omega
              refine zw_if b112 ?_
              refine zw_ite (fun h113 => ?_) (fun h113 => ?_)
              · have b114 : 0 ≤ (m23 a0 3) ∧ (m23 a0 3) < 700 := by omega
                refine zw_if b114 ?_
                refine zw_ite (fun h115 => ?_) (fun h115 => ?_)
                · exfalso; omega
                · have b116 : 0 ≤ (m23 a0 3) ∧ (m23 a0 3) < 700 := by omega
                  refine zw_if b116 ?_
                  refine zw_ite (fun h117 => ?_) (fun h117 => ?_)
                  · have b118 : 0 ≤ (m23 a0 3) ∧ (m23 a0 3) < 700 := by omega
                    refine zw_if b118 ?_
                    refine zw_bd (zw_mono (zk_283 n hIm23 ⟨by omega, by omega⟩) (fun v120 m119 hqm119 => ?_))
                    obtain ⟨hIm119, hfm119, hvm119⟩ := hqm119
                    have hFm119 := zfr_tr hFm23 hfm119 rfl
                    generalize hmm121 : zu_up m119 a0 5 v120 = m121
                    have hIm121 := zi_up hmm121 hIm119 hc0 zb_9_5 (by omega) (by omega)
                    have hFm121 := zfr_up hmm121 hFm119 hc0 rfl
                    have r122 : (-2147483648) ≤ (m121 a0 5) ∧ (m121 a0 5) ≤ 2147483647 := zi_rd hIm121 hc0 zb_9_5
                    have e123 : (m121 a0 5) = v120 := (zs_eq hmm121)
                    refine zw_ite (fun h124 => ?_) (fun h124 => ?_)
                    · generalize hmm125 : zu_up m121 a0 4 4 = m125
                      have hIm125 := zi_up hmm125 hIm121 hc0 zb_9_4 (by omega) (by omega)
                      have hFm125 := zfr_up hmm125 hFm121 hc0 rfl
                      have r126 : 0 ≤ (m125 a0 3) ∧ (m125 a0 3) ≤ 700 := zi_rd hIm125 hc0 zb_9_3
                      have e127 : (m125 a0 3) = (m23 a0 3) := (Eq.trans (zs_ne hmm125 (Or.inr (by decide))) (Eq.trans (zs_ne hmm121 (Or.inr (by decide))) (zfr_ap hfm119 hc0 rfl)))
                      have w128 := zu_w32_id (z := (m125 a0 3) + 1) (by omega) (by omega)
                      generalize hmm129 : zu_up m125 a0 3 (zu_w32 ((m125 a0 3) + 1)) = m129
                      have hIm129 := zi_up hmm129 hIm125 hc0 zb_9_3 (by omega) (by omega)
                      have hFm129 := zfr_up hmm129 hFm125 hc0 rfl
                      have r130 : (-2147483648) ≤ (m129 a0 5) ∧ (m129 a0 5) ≤ 2147483647 := zi_rd hIm129 hc0 zb_9_5
                      have e131 : (m129 a0 5) = (m121 a0 5) := (Eq.trans (zs_ne hmm129 (Or.inr (by decide))) (zs_ne hmm125 (Or.inr (by decide))))
                      have r132 : 0 ≤ (m129 a0 3) ∧ (m129 a0 3) ≤ 700 := zi_rd hIm129 hc0 zb_9_3
                      have e133 : (m129 a0 3) = (zu_w32 ((m125 a0 3) + 1)) := (zs_eq hmm129)
                      have r134 : 0 ≤ (m129 a0 2) ∧ (m129 a0 2) ≤ 700 := zi_rd hIm129 hc0 zb_9_2
                      have e135 : (m129 a0 2) = (m23 a0 2) := (Eq.trans (zs_ne hmm129 (Or.inr (by decide))) (Eq.trans (zs_ne hmm125 (Or.inr (by decide))) (Eq.trans (zs_ne hmm121 (Or.inr (by decide))) (zfr_ap hfm119 hc0 rfl))))
                      refine zw_bd (zw_mono (zk_282 n hIm129 hc0 ⟨by omega, by omega⟩ ⟨by omega, by omega⟩ ⟨by omega, by omega⟩) (fun v137 m136 hqm136 => ?_))
                      obtain ⟨hIm136, hfm136, hvm136⟩ := hqm136
                      have hFm136 := zfr_tr hFm129 hfm136 rfl
                      have r138 : 0 ≤ (m136 a0 4) ∧ (m136 a0 4) ≤ 5 := zi_rd hIm136 hc0 zb_9_4
                      have e139 : (m136 a0 4) = 4 := (Eq.trans (zfr_ap hfm136 hc0 rfl) (Eq.trans (zs_ne hmm129 (Or.inr (by decide))) (zs_eq hmm125)))
                      have hRTVm136 := zR_TV_of hc0 (show m136 a0 4 = 4 → (0 ≤ m136 a0 5 ∧ m136 a0 5 ≤ 12) by omega)
                      exact zw_some ⟨hIm136, hFm136, hRTVm136, trivial⟩
                    · generalize hmm140 : zu_up m121 a0 4 5 = m140
                      have hIm140 := zi_up hmm140 hIm121 hc0 zb_9_4 (by omega) (by omega)
                      have hFm140 := zfr_up hmm140 hFm121 hc0 rfl
                      have r141 : 0 ≤ (m140 a0 3) ∧ (m140 a0 3) ≤ 700 := zi_rd hIm140 hc0 zb_9_3
                      have e142 : (m140 a0 3) = (m23 a0 3) := (Eq.trans (zs_ne hmm140 (Or.inr (by decide))) (Eq.trans (zs_ne hmm121 (Or.inr (by decide))) (zfr_ap hfm119 hc0 rfl)))
                      have w143 := zu_w32_id (z := (m140 a0 3) + 1) (by omega) (by omega)
                      generalize hmm144 : zu_up m140 a0 3 (zu_w32 ((m140 a0 3) + 1)) = m144
                      have hIm144 := zi_up hmm144 hIm140 hc0 zb_9_3 (by omega) (by omega)
                      have hFm144 := zfr_up hmm144 hFm140 hc0 rfl
                      have r145 : (-2147483648) ≤ (m144 a0 5) ∧ (m144 a0 5) ≤ 2147483647 := zi_rd hIm144 hc0 zb_9_5
                      have e146 : (m144 a0 5) = (m121 a0 5) := (Eq.trans (zs_ne hmm144 (Or.inr (by decide))) (zs_ne hmm140 (Or.inr (by decide))))
                      have r147 : 0 ≤ (m144 a0 3) ∧ (m144 a0 3) ≤ 700 := zi_rd hIm144 hc0 zb_9_3
                      have e148 : (m144 a0 3) = (zu_w32 ((m140 a0 3) + 1)) := (zs_eq hmm144)
                      have r149 : 0 ≤ (m144 a0 2) ∧ (m144 a0 2) ≤ 700 := zi_rd hIm144 hc0 zb_9_2
                      have e150 : (m144 a0 2) = (m23 a0 2) := (Eq.trans (zs_ne hmm144 (Or.inr (by decide))) (Eq.trans (zs_ne hmm140 (Or.inr (by decide))) (Eq.trans (zs_ne hmm121 (Or.inr (by decide))) (zfr_ap hfm119 hc0 rfl))))
                      refine zw_bd (zw_mono (zk_282 n hIm144 hc0 ⟨by omega, by omega⟩ ⟨by omega, by omega⟩ ⟨by omega, by omega⟩) (fun v152 m151 hqm151 => ?_))
                      obtain ⟨hIm151, hfm151, hvm151⟩ := hqm151
                      have hFm151 := zfr_tr hFm144 hfm151 rfl
                      have r153 : 0 ≤ (m151 a0 4) ∧ (m151 a0 4) ≤ 5 := zi_rd hIm151 hc0 zb_9_4
                      have e154 : (m151 a0 4) = 5 := (Eq.trans (zfr_ap hfm151 hc0 rfl) (Eq.trans (zs_ne hmm144 (Or.inr (by decide))) (zs_eq hmm140)))
                      have hRTVm151 := zR_TV_of hc0 (show m151 a0 4 = 4 → (0 ≤ m151 a0 5 ∧ m151 a0 5 ≤ 12) by omega)
                      exact zw_some ⟨hIm151, hFm151, hRTVm151, trivial⟩
                  · exfalso; omega
              · have r155 : 0 ≤ (m23 a0 6) ∧ (m23 a0 6) ≤ 700 := zi_rd hIm23 hc0 zb_9_6
                have e156 : (m23 a0 6) = (mh a0 3) := (zs_eq hmm23)
                refine zw_bd (zw_mono (zk_280 n hIm23 hc0 ⟨by omega, by omega⟩ ⟨by omega, by omega⟩ ⟨by omega, by omega⟩) (fun v158 m157 hqm157 => ?_))
                obtain ⟨hIm157, hfm157, hvm157⟩ := hqm157
                have hFm157 := zfr_tr hFm23 hfm157 rfl
                have r159 : (-2147483648) ≤ (m157 a0 5) ∧ (m157 a0 5) ≤ 2147483647 := zi_rd hIm157 hc0 zb_9_5
                have hRTVm157 := zR_TV_of hc0 (show m157 a0 4 = 4 → (0 ≤ m157 a0 5 ∧ m157 a0 5 ≤ 12) by omega)
                exact zw_some ⟨hIm157, hFm157, hRTVm157, trivial⟩
          · generalize hmm160 : zu_up m23 a0 4 0 = m160
            have hIm160 := zi_up hmm160 hIm23 hc0 zb_9_4 (by omega) (by omega)
            have hFm160 := zfr_up hmm160 hFm23 hc0 rfl
            have r161 : 0 ≤ (m160 a0 4) ∧ (m160 a0 4) ≤ 5 := zi_rd hIm160 hc0 zb_9_4
            have e162 : (m160 a0 4) = 0 := (zs_eq hmm160)
            have r163 : (-2147483648) ≤ (m160 a0 5) ∧ (m160 a0 5) ≤ 2147483647 := zi_rd hIm160 hc0 zb_9_5
            have hRTVm160 := zR_TV_of hc0 (show m160 a0 4 = 4 → (0 ≤ m160 a0 5 ∧ m160 a0 5 ≤ 12) by omega)
            exact zw_some ⟨hIm160, hFm160, hRTVm160, trivial⟩
        · have w164 := zu_w32_id (z := (mh a0 3) + 1) (by omega) (by omega)
          generalize hmm165 : zu_up mh a0 3 (zu_w32 ((mh a0 3) + 1)) = m165
          have hIm165 := zi_up hmm165 hImh hc0 zb_9_3 (by omega) (by omega)
          have hFm165 := zfr_up hmm165 hFmh hc0 rfl
          have r166 : 0 ≤ (m165 a0 3) ∧ (m165 a0 3) ≤ 700 := zi_rd hIm165 hc0 zb_9_3
          have e167 : (m165 a0 3) = (zu_w32 ((mh a0 3) + 1)) := (zs_eq hmm165)
          have hM : (700 - (m165 a0 3)) * 1 + 0 < (k : Int) := by omega
          exact ih  m165 hIm165 hFm165  hM
set_option maxHeartbeats 4000000 in
theorem zk_18 (n : Nat) {a0 : Int} {m0 : zu_m} (hIm0 : zi_I m0) (hc0 : zcls a0 = 9)      : zw (zu_call (zt_T n) 18 [(22, a0)] m0) (fun v m => zi_I m ∧ zfr [(9, 4), (9, 5), (9, 6), (9, 7)] m0 m ∧ zR_TV m ∧ True) := by
  have hFm0 : zfr [(9, 4), (9, 5), (9, 6), (9, 7)] m0 m0 := zfr_rf _ _
  show zw (zu_ex (zt_T n) 18 0 [(22, a0)] [] m0) _
  have r168 : 0 ≤ (m0 a0 3) ∧ (m0 a0 3) ≤ 700 := zi_rd hIm0 hc0 zb_9_3
  have hM : (700 - (m0 a0 3)) * 1 + 0 < ((701 : Nat) : Int) := by omega
  exact (zl_18 n (m0 := m0) hc0 701)  m0 hIm0 hFm0  hM
set_option maxHeartbeats 4000000 in
theorem zk_20 (n : Nat) {a0 a1 : Int} {m0 : zu_m} (hIm0 : zi_I m0) (hc0 : zcls a0 = 11) (hc1 : zcls a1 = 4)     (hRG6m0 : (m0 6 2 = m0 6 0 * m0 6 1)) (hRK10m0 : zR_K10 m0) : zw (zu_call (zt_T n) 20 [(8, a0), (8, a1)] m0) (fun v m => zi_I m ∧ zfr [(11, 1), (11, 2), (11, 3), (11, 4), (11, 5), (11, 6), (12, 6), (12, 7), (49, 0), (50, 0), (51, 0), (52, 0), (53, 0), (54, 0), (55, 0)] m0 m ∧ zgeo m 50 ∧ (m 6 2 = m 6 0 * m 6 1) ∧ zR_K10 m ∧ zR_K54 m ∧ True ∧ ((m a0 2) = (m a1 2))) := by
  have hFm0 : zfr [(11, 1), (11, 2), (11, 3), (11, 4), (11, 5), (11, 6), (12, 6), (12, 7), (49, 0), (50, 0), (51, 0), (52, 0), (53, 0), (54, 0), (55, 0)] m0 m0 := zfr_rf _ _
  refine zw_eq (zu_call_at (zt_T n) (zm_20 n) (zdp_20 n) _ _ _ _ _ rfl (zr_20_0 n _ _ a0 a1 m0)) ?_
  have r1 : 0 ≤ (m0 a1 3) ∧ (m0 a1 3) ≤ 6 := zi_rd hIm0 hc1 zb_4_3
  generalize hmm2 : zu_up m0 a0 3 (m0 a1 3) = m2
  have hIm2 := zi_up hmm2 hIm0 hc0 zb_11_3 (by omega) (by omega)
  have hFm2 := zfr_up hmm2 hFm0 hc0 rfl
  have hRG6m2 := zR_G6_fr (zdis_fr (zfr_up hmm2 (zfr_rf [(11, 4)] _) hc0 rfl) rfl) hRG6m0
  have hRK10m2 := zR_K10_fr (zdis_fr (zfr_up hmm2 (zfr_rf [(11, 4)] _) hc0 rfl) rfl) hRK10m0
  have r3 : 0 ≤ (m2 a1 4) ∧ (m2 a1 4) ≤ 99 := zi_rd hIm2 hc1 zb_4_4
  generalize hmm4 : zu_up m2 a0 4 (m2 a1 4) = m4
  have hIm4 := zi_up hmm4 hIm2 hc0 zb_11_4 (by omega) (by omega)
  have hFm4 := zfr_up hmm4 hFm2 hc0 rfl
  have hRG6m4 := zR_G6_fr (zdis_fr (zfr_up hmm4 (zfr_rf [(11, 5)] _) hc0 rfl) rfl) hRG6m2
  have hRK10m4 := zR_K10_fr (zdis_fr (zfr_up hmm4 (zfr_rf [(11, 5)] _) hc0 rfl) rfl) hRK10m2
  have r5 : 0 ≤ (m4 a1 5) ∧ (m4 a1 5) ≤ 99999 := zi_rd hIm4 hc1 zb_4_5
  generalize hmm6 : zu_up m4 a0 5 (m4 a1 5) = m6
  have hIm6 := zi_up hmm6 hIm4 hc0 zb_11_5 (by omega) (by omega)
  have hFm6 := zfr_up hmm6 hFm4 hc0 rfl
  have hRG6m6 := zR_G6_fr (zdis_fr (zfr_up hmm6 (zfr_rf [(11, 6)] _) hc0 rfl) rfl) hRG6m4
  have hRK10m6 := zR_K10_fr (zdis_fr (zfr_up hmm6 (zfr_rf [(11, 6)] _) hc0 rfl) rfl) hRK10m4
  refine zw_bd (zw_mono (zk_21 n hIm6 (zc_11_9 hc0) (zc_4_9 hc1) hRK10m6) (fun v8 m7 hqm7 => ?_))
  obtain ⟨hIm7, hfm7, hvm7⟩ := hqm7
  have hFm7 := zfr_tr hFm6 hfm7 rfl
  obtain ⟨hRK10m7, hRK54m7, hvm7⟩ := hvm7
  have hRG6m7 := zR_G6_fr (zdis_fr hfm7 rfl) hRG6m6
  refine zw_if (by omega) ?_
  generalize hmm9 : zu_cp m7 (a1 + 3) 0 (a0 + 3) 0 48 = m9
  have hIm9 := zi_cp hmm9 hIm7 (zc_4_8 hc1) (zc_11_8 hc0) zb_32 zb_51 (by decide) (by decide)
  have hFm9 := zfr_cp hmm9 hFm7 (zc_11_8 hc0) (fun _ => rfl)
  have hfm9 : zfr [(51, 0)] m7 m9 := zfr_cp hmm9 (zfr_rf _ _) (zc_11_8 hc0) (fun _ => rfl)
  have hRG6m9 := zR_G6_fr (zdis_fr hfm9 rfl) hRG6m7
  have hRK10m9 := zR_K10_fr (zdis_fr hfm9 rfl) hRK10m7
  have hRK54m9 := zR_K54_fr (zdis_fr hfm9 rfl) hRK54m7
  have r10 : 1 ≤ (m9 a1 0) ∧ (m9 a1 0) ≤ 8 := zi_rd hIm9 hc1 zb_4_0
  have r11 : 1 ≤ (m9 a1 1) ∧ (m9 a1 1) ≤ 6 := zi_rd hIm9 hc1 zb_4_1
  have r12 : 1 ≤ (m9 a1 2) ∧ (m9 a1 2) ≤ 48 := zi_rd hIm9 hc1 zb_4_2
  have s13 := zG6_at hRG6m9 (zone_6 hc1)
  refine zw_bd (zw_mono (zk_15_11 n hIm9 hc0 ⟨by omega, by omega⟩ ⟨by omega, by omega⟩) (fun v15 m14 hqm14 => ?_))
  obtain ⟨hIm14, hfm14, hvm14⟩ := hqm14
  have hFm14 := zfr_tr hFm9 hfm14 rfl
  obtain ⟨hRG5m14, hvm14⟩ := hvm14
  have hRG6m14 := zR_G6_fr (zdis_fr hfm14 rfl) hRG6m9
  have hRK10m14 := zR_K10_fr (zdis_fr hfm14 rfl) hRK10m9
  have hRK54m14 := zR_K54_fr (zdis_fr hfm14 rfl) hRK54m9
  have r16 : 1 ≤ (m14 a0 0) ∧ (m14 a0 0) ≤ 8 := zi_rd hIm14 hc0 zb_11_0
  have r17 : 1 ≤ (m14 a0 1) ∧ (m14 a0 1) ≤ 6 := zi_rd hIm14 hc0 zb_11_1
  have r18 : 1 ≤ (m14 a0 2) ∧ (m14 a0 2) ≤ 48 := zi_rd hIm14 hc0 zb_11_2
  have r19 : 1 ≤ (m14 a1 2) ∧ (m14 a1 2) ≤ 48 := zi_rd hIm14 hc1 zb_4_2
  have e20 : (m14 a1 2) = (m9 a1 2) := (zfr_ap hfm14 hc1 rfl)
  exact zw_some ⟨hIm14, hFm14, hRG5m14, hRG6m14, hRK10m14, hRK54m14, trivial, by omega⟩
set_option maxHeartbeats 4000000 in
theorem zl_22_13_6 (n : Nat) {a0 a1 : Int} {m0 : zu_m} (hc0 : zcls a0 = 13) (hc1 : zcls a1 = 6)   : ∀ k : Nat, (∀ (x2 : Int) (mh : zu_m), zi_I mh → zfr [(13, 3), (13, 5), (13, 9), (13, 10), (13, 11), (13, 12), (14, 1), (14, 2), (14, 3), (14, 4), (15, 1), (15, 2), (15, 3), (15, 4), (15, 5), (15, 6), (15, 7), (15, 8), (62, 0), (63, 0)] m0 mh → (0 ≤ x2 ∧ x2 ≤ 16) → (16 - x2) * 1 + 54 < (k : Int) → zw (zu_ex (zt_T n) 22 10 [(27, a0), (16, a1), (0, x2)] [] mh) (fun v m => zi_I m ∧ zfr [(13, 3), (13, 5), (13, 9), (13, 10), (13, 11), (13, 12), (14, 1), (14, 2), (14, 3), (14, 4), (15, 1), (15, 2), (15, 3), (15, 4), (15, 5), (15, 6), (15, 7), (15, 8), (62, 0), (63, 0)] m0 m ∧ True ∧ (zE m0 a1 50 → zE m a0 50))) ∧ (∀ (x2 : Int) (mh : zu_m), zi_I mh → zfr [(13, 3), (13, 5), (13, 9), (13, 10), (13, 11), (13, 12), (14, 1), (14, 2), (14, 3), (14, 4), (15, 1), (15, 2), (15, 3), (15, 4), (15, 5), (15, 6), (15, 7), (15, 8), (62, 0), (63, 0)] m0 mh → (0 ≤ x2 ∧ x2 ≤ 4) → ((mh a0 4) = (m0 a1 4)) → (zcc m0 mh a0 a1 x2) → (4 - x2) * 1 + 49 < (k : Int) → zw (zu_ex (zt_T n) 22 49 [(27, a0), (16, a1), (0, x2)] [] mh) (fun v m => zi_I m ∧ zfr [(13, 3), (13, 5), (13, 9), (13, 10), (13, 11), (13, 12), (14, 1), (14, 2), (14, 3), (14, 4), (15, 1), (15, 2), (15, 3), (15, 4), (15, 5), (15, 6), (15, 7), (15, 8), (62, 0), (63, 0)] m0 m ∧ True ∧ (zE m0 a1 50 → zE m a0 50))) ∧ (∀ (x2 : Int) (mh : zu_m), zi_I mh → zfr [(13, 3), (13, 5), (13, 9), (13, 10), (13, 11), (13, 12), (14, 1), (14, 2), (14, 3), (14, 4), (15, 1), (15, 2), (15, 3), (15, 4), (15, 5), (15, 6), (15, 7), (15, 8), (62, 0), (63, 0)] m0 mh → (0 ≤ x2 ∧ x2 ≤ 48) → ((mh a0 4) = (m0 a1 4)) → ((m0 a1 4) ≤ 4) → (zcc m0 mh a0 a1 (m0 a1 4)) → (48 - x2) * 1 + 0 < (k : Int) → zw (zu_ex (zt_T n) 22 80 [(27, a0), (16, a1), (0, x2)] [] mh) (fun v m => zi_I m ∧ zfr [(13, 3), (13, 5), (13, 9), (13, 10), (13, 11), (13, 12), (14, 1), (14, 2), (14, 3), (14, 4), (15, 1), (15, 2), (15, 3), (15, 4), (15, 5), (15, 6), (15, 7), (15, 8), (62, 0), (63, 0)] m0 m ∧ True ∧ (zE m0 a1 50 → zE m a0 50))) := by
  intro k
  induction k with
  | zero => exact ⟨fun x2 mh hImh hFmh hbx2 hM => by exfalso; omega, fun x2 mh hImh hFmh hbx2 hH0 hH1 hM => by exfalso; omega, fun x2 mh hImh hFmh hbx2 hH0 hH1 hH2 hM => by exfalso; omega⟩
  | succ k ih =>
    refine ⟨?_, ?_, ?_⟩
    · intro x2 mh hImh hFmh hbx2 hM
      refine zw_eq (zu_rega_at (zt_T n) (zm_22 n) (zdp_22 n) _ _ _ _ _ _ (zr_22_10 n _ _ a0 a1 x2 mh)) ?_
      have r1 : 0 ≤ (mh a0 2) ∧ (mh a0 2) ≤ 16 := zi_rd hImh hc0 zb_13_2
      refine zw_ite (fun h2 => ?_) (fun h2 => ?_)
      · have r3 : 0 ≤ (mh a1 4) ∧ (mh a1 4) ≤ 4 := zi_rd hImh hc1 zb_6_4
        have s4 : (mh a1 4) = m0 a1 4 := zfr_ap hFmh hc1 rfl
        generalize hmm5 : zu_up mh a0 4 (mh a1 4) = m5
        have hIm5 := zi_up hmm5 hImh hc0 zb_13_4 (by omega) (by omega)
        have hFm5 := zfr_up hmm5 hFmh hc0 rfl
        have r6 : 0 ≤ (m5 a0 4) ∧ (m5 a0 4) ≤ 4 := zi_rd hIm5 hc0 zb_13_4
        have e7 : (m5 a0 4) = (mh a1 4) := (zs_eq hmm5)
        have hM : (4 - 0) * 1 + 49 < (k : Int) := by omega
        exact ih.2.1 0 m5 hIm5 hFm5 ⟨by omega, by omega⟩ (by omega) (zcc_0 _ _ _ _) hM
      · have b8 : 0 ≤ x2 ∧ x2 < 16 := by omega
        refine zw_if b8 ?_
        have b9 : 0 ≤ x2 ∧ x2 < 16 := by omega
        refine zw_if b9 ?_
        refine zw_bd (zw_mono (zk_197_14_7 n hImh (zc_60_e (zc_13_1 hc0) b8) (zc_41_e zq_20 b9)) (fun v11 m10 hqm10 => ?_))
        obtain ⟨hIm10, hfm10, hvm10⟩ := hqm10
        have hFm10 := zfr_tr hFmh hfm10 rfl
        have w12 := zu_w32_id (z := x2 + 1) (by omega) (by omega)
        have hM : (16 - (zu_w32 (x2 + 1))) * 1 + 54 < (k : Int) := by omega
        exact ih.1 (zu_w32 (x2 + 1)) m10 hIm10 hFm10 ⟨by omega, by omega⟩ hM
    · intro x2 mh hImh hFmh hbx2 hH0 hH1 hM
      refine zw_eq (zu_rega_at (zt_T n) (zm_22 n) (zdp_22 n) _ _ _ _ _ _ (zr_22_49 n _ _ a0 a1 x2 mh)) ?_
      have r13 : 0 ≤ (mh a0 4) ∧ (mh a0 4) ≤ 4 := zi_rd hImh hc0 zb_13_4
      have z14 := zone_19 hc1
      refine zw_ite (fun h15 => ?_) (fun h15 => ?_)
      · have hM : (48 - 0) * 1 + 0 < (k : Int) := by omega
        exact ih.2.2 0 mh hImh hFmh ⟨by omega, by omega⟩ (by omega) (by omega) (zcc_x hH1 (by omega)) hM
      · have b16 : 0 ≤ x2 ∧ x2 < 4 := by omega
        refine zw_if b16 ?_
        have b17 : 0 ≤ x2 ∧ x2 < 4 := by omega
        refine zw_if b17 ?_
        have r20 : 0 ≤ (mh (21 + 20 + x2) 1) ∧ (mh (21 + 20 + x2) 1) ≤ 47 := zi_rd hImh (zc_42_e zq_21 b17) zb_8_1
        refine zw_bd (zw_mono (zk_196_15_8 n hImh (zc_61_e (zc_13_3 hc0) b16) (zc_42_e zq_21 b17)) (fun v19 m18 hqm18 => ?_))
        obtain ⟨hIm18, hfm18, hvm18⟩ := hqm18
        have hFm18 := zfr_tr hFmh hfm18 rfl
        have r21 : 0 ≤ (m18 ((a0 + 2) + 20 + x2) 1) ∧ (m18 ((a0 + 2) + 20 + x2) 1) ≤ 47 := zi_rd hIm18 (zc_61_e (zc_13_3 hc0) b16) zb_15_1
        have hcam18 : m18 ((a0 + 2) + 20 + x2) 1 = mh (21 + 20 + x2) 1 := (hvm18.2.1)
        have hcbm18 : mh (21 + 20 + x2) 1 = m0 (21 + 20 + x2) 1 := zfr_ap hFmh (zc_42_e zq_21 b17) rfl
        have hccm18 := (hvm18.2.2)
        have w22 := zu_w32_id (z := x2 + 1) (by omega) (by omega)
        have r23 : 0 ≤ (m18 a0 4) ∧ (m18 a0 4) ≤ 4 := zi_rd hIm18 hc0 zb_13_4
        have e24 : (m18 a0 4) = (mh a0 4) := (zfr_ap hfm18 hc0 rfl)
        have hM : (4 - (zu_w32 (x2 + 1))) * 1 + 49 < (k : Int) := by omega
        exact ih.2.1 (zu_w32 (x2 + 1)) m18 hIm18 hFm18 ⟨by omega, by omega⟩ (by omega) (zcc_s hH1 hcam18 hcbm18 hccm18 (by omega) (by omega) (by omega)) hM
    · intro x2 mh hImh hFmh hbx2 hH0 hH1 hH2 hM
      refine zw_eq (zu_rega_at (zt_T n) (zm_22 n) (zdp_22 n) _ _ _ _ _ _ (zr_22_80 n _ _ a0 a1 x2 mh)) ?_
      have r25 : 0 ≤ (mh a0 4) ∧ (mh a0 4) ≤ 4 := zi_rd hImh hc0 zb_13_4
      refine zw_ite (fun h26 => ?_) (fun h26 => ?_)
      · have r27 : 0 ≤ (mh a1 8) ∧ (mh a1 8) ≤ 9999 := zi_rd hImh hc1 zb_6_8
        generalize hmm28 : zu_up mh a0 8 (mh a1 8) = m28
        have hIm28 := zi_up hmm28 hImh hc0 zb_13_8 (by omega) (by omega)
        have hFm28 := zfr_up hmm28 hFmh hc0 rfl
        have r29 : (-2147483648) ≤ (m28 a1 9) ∧ (m28 a1 9) ≤ 2147483647 := zi_rd hIm28 hc1 zb_6_9
        generalize hmm30 : zu_up m28 a0 9 (m28 a1 9) = m30
        have hIm30 := zi_up hmm30 hIm28 hc0 zb_13_9 (by omega) (by omega)
        have hFm30 := zfr_up hmm30 hFm28 hc0 rfl
        have r31 : 0 ≤ (m30 a1 10) ∧ (m30 a1 10) ≤ 3 := zi_rd hIm30 hc1 zb_6_10
        generalize hmm32 : zu_up m30 a0 10 (m30 a1 10) = m32
        have hIm32 := zi_up hmm32 hIm30 hc0 zb_13_10 (by omega) (by omega)
        have hFm32 := zfr_up hmm32 hFm30 hc0 rfl
        have r33 : (-2147483648) ≤ (m32 a1 11) ∧ (m32 a1 11) ≤ 2147483647 := zi_rd hIm32 hc1 zb_6_11
        generalize hmm34 : zu_up m32 a0 11 (m32 a1 11) = m34
        have hIm34 := zi_up hmm34 hIm32 hc0 zb_13_11 (by omega) (by omega)
        have hFm34 := zfr_up hmm34 hFm32 hc0 rfl
        have r35 : 0 ≤ (m34 a0 4) ∧ (m34 a0 4) ≤ 4 := zi_rd hIm34 hc0 zb_13_4
        have e36 : (m34 a0 4) = (mh a0 4) := (Eq.trans (zs_ne hmm34 (Or.inr (by decide))) (Eq.trans (zs_ne hmm32 (Or.inr (by decide))) (Eq.trans (zs_ne hmm30 (Or.inr (by decide))) (zs_ne hmm28 (Or.inr (by decide))))))
        exact zw_some ⟨hIm34, hFm34, trivial, (fun hE => zE_cp (zcc_mv hH2 (by omega) (fun c h0 h4 => (Eq.trans (zs_ne hmm34 (Or.inl (zc_ne (zc_61_e (zc_13_3 hc0) ⟨h0, h4⟩) hc0 (by decide)))) (Eq.trans (zs_ne hmm32 (Or.inl (zc_ne (zc_61_e (zc_13_3 hc0) ⟨h0, h4⟩) hc0 (by decide)))) (Eq.trans (zs_ne hmm30 (Or.inl (zc_ne (zc_61_e (zc_13_3 hc0) ⟨h0, h4⟩) hc0 (by decide)))) (zs_ne hmm28 (Or.inl (zc_ne (zc_61_e (zc_13_3 hc0) ⟨h0, h4⟩) hc0 (by decide))))))))) (by omega) (by omega) (zfr_ap hFm34 zq_50 rfl) hE)⟩
      · have b37 : 0 ≤ x2 ∧ x2 < 48 := by omega
        refine zw_if b37 ?_
        have r38 : 0 ≤ (mh 22 x2) ∧ (mh 22 x2) ≤ 1 := zi_rd hImh zq_22 (zb_43 _)
        refine zw_b (by omega) ?_
        have b39 : 0 ≤ x2 ∧ x2 < 48 := by omega
        refine zw_if b39 ?_
        generalize hmm40 : zu_up mh (a0 + 3) x2 (mh 22 x2) = m40
        have hIm40 := zi_up hmm40 hImh (zc_13_5 hc0) (zb_62 _) (by omega) (by omega)
        have hFm40 := zfr_up hmm40 hFmh (zc_13_5 hc0) rfl
        have b41 : 0 ≤ x2 ∧ x2 < 48 := by omega
        refine zw_if b41 ?_
        have r42 : 0 ≤ (m40 23 x2) ∧ (m40 23 x2) ≤ 999000 := zi_rd hIm40 zq_23 (zb_44 _)
        have b43 : 0 ≤ x2 ∧ x2 < 48 := by omega
        refine zw_if b43 ?_
        generalize hmm44 : zu_up m40 (a0 + 4) x2 (m40 23 x2) = m44
        have hIm44 := zi_up hmm44 hIm40 (zc_13_6 hc0) (zb_63 _) (by omega) (by omega)
        have hFm44 := zfr_up hmm44 hFm40 (zc_13_6 hc0) rfl
        have w45 := zu_w32_id (z := x2 + 1) (by omega) (by omega)
        have r46 : 0 ≤ (m44 a0 4) ∧ (m44 a0 4) ≤ 4 := zi_rd hIm44 hc0 zb_13_4
        have e47 : (m44 a0 4) = (mh a0 4) := (Eq.trans (zs_ne hmm44 (Or.inl (zc_ne hc0 (zc_13_6 hc0) (by decide)))) (zs_ne hmm40 (Or.inl (zc_ne hc0 (zc_13_5 hc0) (by decide)))))
        have hM : (48 - (zu_w32 (x2 + 1))) * 1 + 0 < (k : Int) := by omega
        exact ih.2.2 (zu_w32 (x2 + 1)) m44 hIm44 hFm44 ⟨by omega, by omega⟩ (by omega) (by omega) (zcc_mv hH2 (by omega) (fun c h0 h4 => (Eq.trans (zs_ne hmm44 (Or.inl (zc_ne (zc_61_e (zc_13_3 hc0) ⟨h0, h4⟩) (zc_13_6 hc0) (by decide)))) (zs_ne hmm40 (Or.inl (zc_ne (zc_61_e (zc_13_3 hc0) ⟨h0, h4⟩) (zc_13_5 hc0) (by decide))))))) hM
set_option maxHeartbeats 4000000 in
theorem zk_22_13_6 (n : Nat) {a0 a1 : Int} {m0 : zu_m} (hIm0 : zi_I m0) (hc0 : zcls a0 = 13) (hc1 : zcls a1 = 6)      : zw (zu_call (zt_T n) 22 [(27, a0), (16, a1)] m0) (fun v m => zi_I m ∧ zfr [(13, 3), (13, 5), (13, 9), (13, 10), (13, 11), (13, 12), (14, 1), (14, 2), (14, 3), (14, 4), (15, 1), (15, 2), (15, 3), (15, 4), (15, 5), (15, 6), (15, 7), (15, 8), (62, 0), (63, 0)] m0 m ∧ True ∧ (zE m0 a1 50 → zE m a0 50)) := by
  have hFm0 : zfr [(13, 3), (13, 5), (13, 9), (13, 10), (13, 11), (13, 12), (14, 1), (14, 2), (14, 3), (14, 4), (15, 1), (15, 2), (15, 3), (15, 4), (15, 5), (15, 6), (15, 7), (15, 8), (62, 0), (63, 0)] m0 m0 := zfr_rf _ _
  have r48 : 0 ≤ (m0 a1 4) ∧ (m0 a1 4) ≤ 4 := zi_rd hIm0 hc1 zb_6_4
  refine zw_eq (zu_call_at (zt_T n) (zm_22 n) (zdp_22 n) _ _ _ _ _ rfl (zr_22_0 n _ _ a0 a1 m0)) ?_
  have r49 : 0 ≤ (m0 a1 2) ∧ (m0 a1 2) ≤ 16 := zi_rd hIm0 hc1 zb_6_2
  generalize hmm50 : zu_up m0 a0 2 (m0 a1 2) = m50
  have hIm50 := zi_up hmm50 hIm0 hc0 zb_13_2 (by omega) (by omega)
  have hFm50 := zfr_up hmm50 hFm0 hc0 rfl
  have hM : (16 - 0) * 1 + 54 < ((71 : Nat) : Int) := by omega
  exact (zl_22_13_6 n (m0 := m0) hc0 hc1 71).1 0 m50 hIm50 hFm50 ⟨by omega, by omega⟩ hM
set_option maxHeartbeats 4000000 in
theorem zl_22_16_13 (n : Nat) {a0 a1 : Int} {m0 : zu_m} (hc0 : zcls a0 = 16) (hc1 : zcls a1 = 13)   : ∀ k : Nat, (∀ (x2 : Int) (mh : zu_m), zi_I mh → zfr [(16, 3), (16, 5), (16, 9), (16, 10), (16, 11), (16, 12), (17, 1), (17, 2), (17, 3), (17, 4), (18, 1), (18, 2), (18, 3), (18, 4), (18, 5), (18, 6), (18, 7), (18, 8), (67, 0), (68, 0)] m0 mh → (0 ≤ x2 ∧ x2 ≤ 16) → (16 - x2) * 1 + 54 < (k : Int) → zw (zu_ex (zt_T n) 22 10 [(27, a0), (27, a1), (0, x2)] [] mh) (fun v m => zi_I m ∧ zfr [(16, 3), (16, 5), (16, 9), (16, 10), (16, 11), (16, 12), (17, 1), (17, 2), (17, 3), (17, 4), (18, 1), (18, 2), (18, 3), (18, 4), (18, 5), (18, 6), (18, 7), (18, 8), (67, 0), (68, 0)] m0 m ∧ True ∧ (zE m0 a1 50 → zE m a0 50))) ∧ (∀ (x2 : Int) (mh : zu_m), zi_I mh → zfr [(16, 3), (16, 5), (16, 9), (16, 10), (16, 11), (16, 12), (17, 1), (17, 2), (17, 3), (17, 4), (18, 1), (18, 2), (18, 3), (18, 4), (18, 5), (18, 6), (18, 7), (18, 8), (67, 0), (68, 0)] m0 mh → (0 ≤ x2 ∧ x2 ≤ 4) → ((mh a0 4) = (m0 a1 4)) → (zcc m0 mh a0 a1 x2) → (4 - x2) * 1 + 49 < (k : Int) → zw (zu_ex (zt_T n) 22 49 [(27, a0), (27, a1), (0, x2)] [] mh) (fun v m => zi_I m ∧ zfr [(16, 3), (16, 5), (16, 9), (16, 10), (16, 11), (16, 12), (17, 1), (17, 2), (17, 3), (17, 4), (18, 1), (18, 2), (18, 3), (18, 4), (18, 5), (18, 6), (18, 7), (18, 8), (67, 0), (68, 0)] m0 m ∧ True ∧ (zE m0 a1 50 → zE m a0 50))) ∧ (∀ (x2 : Int) (mh : zu_m), zi_I mh → zfr [(16, 3), (16, 5), (16, 9), (16, 10), (16, 11), (16, 12), (17, 1), (17, 2), (17, 3), (17, 4), (18, 1), (18, 2), (18, 3), (18, 4), (18, 5), (18, 6), (18, 7), (18, 8), (67, 0), (68, 0)] m0 mh → (0 ≤ x2 ∧ x2 ≤ 48) → ((mh a0 4) = (m0 a1 4)) → ((m0 a1 4) ≤ 4) → (zcc m0 mh a0 a1 (m0 a1 4)) → (48 - x2) * 1 + 0 < (k : Int) → zw (zu_ex (zt_T n) 22 80 [(27, a0), (27, a1), (0, x2)] [] mh) (fun v m => zi_I m ∧ zfr [(16, 3), (16, 5), (16, 9), (16, 10), (16, 11), (16, 12), (17, 1), (17, 2), (17, 3), (17, 4), (18, 1), (18, 2), (18, 3), (18, 4), (18, 5), (18, 6), (18, 7), (18, 8), (67, 0), (68, 0)] m0 m ∧ True ∧ (zE m0 a1 50 → zE m a0 50))) := by
  intro k
  induction k with
  | zero => exact ⟨fun x2 mh hImh hFmh hbx2 hM => by exfalso; omega, fun x2 mh hImh hFmh hbx2 hH0 hH1 hM => by exfalso; omega, fun x2 mh hImh hFmh hbx2 hH0 hH1 hH2 hM => by exfalso; omega⟩
  | succ k ih =>
    refine ⟨?_, ?_, ?_⟩
    · intro x2 mh hImh hFmh hbx2 hM
      refine zw_eq (zu_rega_at (zt_T n) (zm_22 n) (zdp_22 n) _ _ _ _ _ _ (zr_22b_10 n _ _ a0 a1 x2 mh)) ?_
      have r1 : 0 ≤ (mh a0 2) ∧ (mh a0 2) ≤ 16 := zi_rd hImh hc0 zb_16_2
      refine zw_ite (fun h2 => ?_) (fun h2 => ?_)
      · have r3 : 0 ≤ (mh a1 4) ∧ (mh a1 4) ≤ 4 := zi_rd hImh hc1 zb_13_4
        have s4 : (mh a1 4) = m0 a1 4 := zfr_ap hFmh hc1 rfl
        generalize hmm5 : zu_up mh a0 4 (mh a1 4) = m5
        have hIm5 := zi_up hmm5 hImh hc0 zb_16_4 (by omega) (by omega)
        have hFm5 := zfr_up hmm5 hFmh hc0 rfl
        have r6 : 0 ≤ (m5 a0 4) ∧ (m5 a0 4) ≤ 4 := zi_rd hIm5 hc0 zb_16_4
        have e7 : (m5 a0 4) = (mh a1 4) := (zs_eq hmm5)
        have hM : (4 - 0) * 1 + 49 < (k : Int) := by omega
        exact ih.2.1 0 m5 hIm5 hFm5 ⟨by omega, by omega⟩ (by omega) (zcc_0 _ _ _ _) hM
      · have b8 : 0 ≤ x2 ∧ x2 < 16 := by omega
        refine zw_if b8 ?_
        have b9 : 0 ≤ x2 ∧ x2 < 16 := by omega
        refine zw_if b9 ?_
        refine zw_bd (zw_mono (zk_197_17_14 n hImh (zc_65_e (zc_16_1 hc0) b8) (zc_60_e (zc_13_1 hc1) b9)) (fun v11 m10 hqm10 => ?_))
        obtain ⟨hIm10, hfm10, hvm10⟩ := hqm10
        have hFm10 := zfr_tr hFmh hfm10 rfl
        have w12 := zu_w32_id (z := x2 + 1) (by omega) (by omega)
        have hM : (16 - (zu_w32 (x2 + 1))) * 1 + 54 < (k : Int) := by omega
        exact ih.1 (zu_w32 (x2 + 1)) m10 hIm10 hFm10 ⟨by omega, by omega⟩ hM
    · intro x2 mh hImh hFmh hbx2 hH0 hH1 hM
      refine zw_eq (zu_rega_at (zt_T n) (zm_22 n) (zdp_22 n) _ _ _ _ _ _ (zr_22b_49 n _ _ a0 a1 x2 mh)) ?_
      have r13 : 0 ≤ (mh a0 4) ∧ (mh a0 4) ≤ 4 := zi_rd hImh hc0 zb_16_4
      refine zw_ite (fun h14 => ?_) (fun h14 => ?_)
      · have hM : (48 - 0) * 1 + 0 < (k : Int) := by omega
        exact ih.2.2 0 mh hImh hFmh ⟨by omega, by omega⟩ (by omega) (by omega) (zcc_x hH1 (by omega)) hM
      · have b15 : 0 ≤ x2 ∧ x2 < 4 := by omega
        refine zw_if b15 ?_
        have b16 : 0 ≤ x2 ∧ x2 < 4 := by omega
        refine zw_if b16 ?_
        have r19 : 0 ≤ (mh ((a1 + 2) + 20 + x2) 1) ∧ (mh ((a1 + 2) + 20 + x2) 1) ≤ 47 := zi_rd hImh (zc_61_e (zc_13_3 hc1) b16) zb_15_1
        refine zw_bd (zw_mono (zk_196_18_15 n hImh (zc_66_e (zc_16_3 hc0) b15) (zc_61_e (zc_13_3 hc1) b16)) (fun v18 m17 hqm17 => ?_))
        obtain ⟨hIm17, hfm17, hvm17⟩ := hqm17
        have hFm17 := zfr_tr hFmh hfm17 rfl
        have r20 : 0 ≤ (m17 ((a0 + 2) + 20 + x2) 1) ∧ (m17 ((a0 + 2) + 20 + x2) 1) ≤ 47 := zi_rd hIm17 (zc_66_e (zc_16_3 hc0) b15) zb_18_1
        have hcam17 : m17 ((a0 + 2) + 20 + x2) 1 = mh ((a1 + 2) + 20 + x2) 1 := (hvm17.2.1)
        have hcbm17 : mh ((a1 + 2) + 20 + x2) 1 = m0 ((a1 + 2) + 20 + x2) 1 := zfr_ap hFmh (zc_61_e (zc_13_3 hc1) b16) rfl
        have hccm17 := (hvm17.2.2)
        have w21 := zu_w32_id (z := x2 + 1) (by omega) (by omega)
        have r22 : 0 ≤ (m17 a0 4) ∧ (m17 a0 4) ≤ 4 := zi_rd hIm17 hc0 zb_16_4
        have e23 : (m17 a0 4) = (mh a0 4) := (zfr_ap hfm17 hc0 rfl)
        have hM : (4 - (zu_w32 (x2 + 1))) * 1 + 49 < (k : Int) := by omega
        exact ih.2.1 (zu_w32 (x2 + 1)) m17 hIm17 hFm17 ⟨by omega, by omega⟩ (by omega) (zcc_s hH1 hcam17 hcbm17 hccm17 (by omega) (by omega) (by omega)) hM
    · intro x2 mh hImh hFmh hbx2 hH0 hH1 hH2 hM
      refine zw_eq (zu_rega_at (zt_T n) (zm_22 n) (zdp_22 n) _ _ _ _ _ _ (zr_22b_80 n _ _ a0 a1 x2 mh)) ?_
      have r24 : 0 ≤ (mh a0 4) ∧ (mh a0 4) ≤ 4 := zi_rd hImh hc0 zb_16_4
      refine zw_ite (fun h25 => ?_) (fun h25 => ?_)
      · have r26 : 0 ≤ (mh a1 8) ∧ (mh a1 8) ≤ 9999 := zi_rd hImh hc1 zb_13_8
        generalize hmm27 : zu_up mh a0 8 (mh a1 8) = m27
        have hIm27 := zi_up hmm27 hImh hc0 zb_16_8 (by omega) (by omega)
        have hFm27 := zfr_up hmm27 hFmh hc0 rfl
        have r28 : (-2147483648) ≤ (m27 a1 9) ∧ (m27 a1 9) ≤ 2147483647 := zi_rd hIm27 hc1 zb_13_9
        generalize hmm29 : zu_up m27 a0 9 (m27 a1 9) = m29
        have hIm29 := zi_up hmm29 hIm27 hc0 zb_16_9 (by omega) (by omega)
        have hFm29 := zfr_up hmm29 hFm27 hc0 rfl
        have r30 : 0 ≤ (m29 a1 10) ∧ (m29 a1 10) ≤ 3 := zi_rd hIm29 hc1 zb_13_10
        generalize hmm31 : zu_up m29 a0 10 (m29 a1 10) = m31
        have hIm31 := zi_up hmm31 hIm29 hc0 zb_16_10 (by omega) (by omega)
        have hFm31 := zfr_up hmm31 hFm29 hc0 rfl
        have r32 : (-2147483648) ≤ (m31 a1 11) ∧ (m31 a1 11) ≤ 2147483647 := zi_rd hIm31 hc1 zb_13_11
        generalize hmm33 : zu_up m31 a0 11 (m31 a1 11) = m33
        have hIm33 := zi_up hmm33 hIm31 hc0 zb_16_11 (by omega) (by omega)
        have hFm33 := zfr_up hmm33 hFm31 hc0 rfl
        have r34 : 0 ≤ (m33 a0 4) ∧ (m33 a0 4) ≤ 4 := zi_rd hIm33 hc0 zb_16_4
        have e35 : (m33 a0 4) = (mh a0 4) := (Eq.trans (zs_ne hmm33 (Or.inr (by decide))) (Eq.trans (zs_ne hmm31 (Or.inr (by decide))) (Eq.trans (zs_ne hmm29 (Or.inr (by decide))) (zs_ne hmm27 (Or.inr (by decide))))))
        exact zw_some ⟨hIm33, hFm33, trivial, (fun hE => zE_cp (zcc_mv hH2 (by omega) (fun c h0 h4 => (Eq.trans (zs_ne hmm33 (Or.inl (zc_ne (zc_66_e (zc_16_3 hc0) ⟨h0, h4⟩) hc0 (by decide)))) (Eq.trans (zs_ne hmm31 (Or.inl (zc_ne (zc_66_e (zc_16_3 hc0) ⟨h0, h4⟩) hc0 (by decide)))) (Eq.trans (zs_ne hmm29 (Or.inl (zc_ne (zc_66_e (zc_16_3 hc0) ⟨h0, h4⟩) hc0 (by decide)))) (zs_ne hmm27 (Or.inl (zc_ne (zc_66_e (zc_16_3 hc0) ⟨h0, h4⟩) hc0 (by decide))))))))) (by omega) (by omega) (zfr_ap hFm33 zq_50 rfl) hE)⟩
      · have b36 : 0 ≤ x2 ∧ x2 < 48 := by omega
        refine zw_if b36 ?_
        have r37 : 0 ≤ (mh (a1 + 3) x2) ∧ (mh (a1 + 3) x2) ≤ 1 := zi_rd hImh (zc_13_5 hc1) (zb_62 _)
        refine zw_b (by omega) ?_
        have b38 : 0 ≤ x2 ∧ x2 < 48 := by omega
        refine zw_if b38 ?_
        generalize hmm39 : zu_up mh (a0 + 3) x2 (mh (a1 + 3) x2) = m39
        have hIm39 := zi_up hmm39 hImh (zc_16_5 hc0) (zb_67 _) (by omega) (by omega)
        have hFm39 := zfr_up hmm39 hFmh (zc_16_5 hc0) rfl
        have b40 : 0 ≤ x2 ∧ x2 < 48 := by omega
        refine zw_if b40 ?_
        have r41 : 0 ≤ (m39 (a1 + 4) x2) ∧ (m39 (a1 + 4) x2) ≤ 999000 := zi_rd hIm39 (zc_13_6 hc1) (zb_63 _)
        have b42 : 0 ≤ x2 ∧ x2 < 48 := by omega
        refine zw_if b42 ?_
        generalize hmm43 : zu_up m39 (a0 + 4) x2 (m39 (a1 + 4) x2) = m43
        have hIm43 := zi_up hmm43 hIm39 (zc_16_6 hc0) (zb_68 _) (by omega) (by omega)
        have hFm43 := zfr_up hmm43 hFm39 (zc_16_6 hc0) rfl
        have w44 := zu_w32_id (z := x2 + 1) (by omega) (by omega)
        have r45 : 0 ≤ (m43 a0 4) ∧ (m43 a0 4) ≤ 4 := zi_rd hIm43 hc0 zb_16_4
        have e46 : (m43 a0 4) = (mh a0 4) := (Eq.trans (zs_ne hmm43 (Or.inl (zc_ne hc0 (zc_16_6 hc0) (by decide)))) (zs_ne hmm39 (Or.inl (zc_ne hc0 (zc_16_5 hc0) (by decide)))))
        have hM : (48 - (zu_w32 (x2 + 1))) * 1 + 0 < (k : Int) := by omega
        exact ih.2.2 (zu_w32 (x2 + 1)) m43 hIm43 hFm43 ⟨by omega, by omega⟩ (by omega) (by omega) (zcc_mv hH2 (by omega) (fun c h0 h4 => (Eq.trans (zs_ne hmm43 (Or.inl (zc_ne (zc_66_e (zc_16_3 hc0) ⟨h0, h4⟩) (zc_16_6 hc0) (by decide)))) (zs_ne hmm39 (Or.inl (zc_ne (zc_66_e (zc_16_3 hc0) ⟨h0, h4⟩) (zc_16_5 hc0) (by decide))))))) hM
set_option maxHeartbeats 4000000 in
theorem zk_22_16_13 (n : Nat) {a0 a1 : Int} {m0 : zu_m} (hIm0 : zi_I m0) (hc0 : zcls a0 = 16) (hc1 : zcls a1 = 13)      : zw (zu_call (zt_T n) 22 [(27, a0), (27, a1)] m0) (fun v m => zi_I m ∧ zfr [(16, 3), (16, 5), (16, 9), (16, 10), (16, 11), (16, 12), (17, 1), (17, 2), (17, 3), (17, 4), (18, 1), (18, 2), (18, 3), (18, 4), (18, 5), (18, 6), (18, 7), (18, 8), (67, 0), (68, 0)] m0 m ∧ True ∧ (zE m0 a1 50 → zE m a0 50)) := by
  have hFm0 : zfr [(16, 3), (16, 5), (16, 9), (16, 10), (16, 11), (16, 12), (17, 1), (17, 2), (17, 3), (17, 4), (18, 1), (18, 2), (18, 3), (18, 4), (18, 5), (18, 6), (18, 7), (18, 8), (67, 0), (68, 0)] m0 m0 := zfr_rf _ _
  have r47 : 0 ≤ (m0 a1 4) ∧ (m0 a1 4) ≤ 4 := zi_rd hIm0 hc1 zb_13_4
  refine zw_eq (zu_call_at (zt_T n) (zm_22 n) (zdp_22 n) _ _ _ _ _ rfl (zr_22b_0 n _ _ a0 a1 m0)) ?_
  have r48 : 0 ≤ (m0 a1 2) ∧ (m0 a1 2) ≤ 16 := zi_rd hIm0 hc1 zb_13_2
  generalize hmm49 : zu_up m0 a0 2 (m0 a1 2) = m49
  have hIm49 := zi_up hmm49 hIm0 hc0 zb_16_2 (by omega) (by omega)
  have hFm49 := zfr_up hmm49 hFm0 hc0 rfl
  have hM : (16 - 0) * 1 + 54 < ((71 : Nat) : Int) := by omega
  exact (zl_22_16_13 n (m0 := m0) hc0 hc1 71).1 0 m49 hIm49 hFm49 ⟨by omega, by omega⟩ hM
set_option maxHeartbeats 4000000 in
theorem zl_22_16_19 (n : Nat) {a0 a1 : Int} {m0 : zu_m} (hc0 : zcls a0 = 16) (hc1 : zcls a1 = 19)   : ∀ k : Nat, (∀ (x2 : Int) (mh : zu_m), zi_I mh → zfr [(16, 3), (16, 5), (16, 9), (16, 10), (16, 11), (16, 12), (17, 1), (17, 2), (17, 3), (17, 4), (18, 1), (18, 2), (18, 3), (18, 4), (18, 5), (18, 6), (18, 7), (18, 8), (67, 0), (68, 0)] m0 mh → (0 ≤ x2 ∧ x2 ≤ 16) → (16 - x2) * 1 + 54 < (k : Int) → zw (zu_ex (zt_T n) 22 10 [(27, a0), (27, a1), (0, x2)] [] mh) (fun v m => zi_I m ∧ zfr [(16, 3), (16, 5), (16, 9), (16, 10), (16, 11), (16, 12), (17, 1), (17, 2), (17, 3), (17, 4), (18, 1), (18, 2), (18, 3), (18, 4), (18, 5), (18, 6), (18, 7), (18, 8), (67, 0), (68, 0)] m0 m ∧ True ∧ (zE m0 a1 50 → zE m a0 50))) ∧ (∀ (x2 : Int) (mh : zu_m), zi_I mh → zfr [(16, 3), (16, 5), (16, 9), (16, 10), (16, 11), (16, 12), (17, 1), (17, 2), (17, 3), (17, 4), (18, 1), (18, 2), (18, 3), (18, 4), (18, 5), (18, 6), (18, 7), (18, 8), (67, 0), (68, 0)] m0 mh → (0 ≤ x2 ∧ x2 ≤ 4) → ((mh a0 4) = (m0 a1 4)) → (zcc m0 mh a0 a1 x2) → (4 - x2) * 1 + 49 < (k : Int) → zw (zu_ex (zt_T n) 22 49 [(27, a0), (27, a1), (0, x2)] [] mh) (fun v m => zi_I m ∧ zfr [(16, 3), (16, 5), (16, 9), (16, 10), (16, 11), (16, 12), (17, 1), (17, 2), (17, 3), (17, 4), (18, 1), (18, 2), (18, 3), (18, 4), (18, 5), (18, 6), (18, 7), (18, 8), (67, 0), (68, 0)] m0 m ∧ True ∧ (zE m0 a1 50 → zE m a0 50))) ∧ (∀ (x2 : Int) (mh : zu_m), zi_I mh → zfr [(16, 3), (16, 5), (16, 9), (16, 10), (16, 11), (16, 12), (17, 1), (17, 2), (17, 3), (17, 4), (18, 1), (18, 2), (18, 3), (18, 4), (18, 5), (18, 6), (18, 7), (18, 8), (67, 0), (68, 0)] m0 mh → (0 ≤ x2 ∧ x2 ≤ 48) → ((mh a0 4) = (m0 a1 4)) → ((m0 a1 4) ≤ 4) → (zcc m0 mh a0 a1 (m0 a1 4)) → (48 - x2) * 1 + 0 < (k : Int) → zw (zu_ex (zt_T n) 22 80 [(27, a0), (27, a1), (0, x2)] [] mh) (fun v m => zi_I m ∧ zfr [(16, 3), (16, 5), (16, 9), (16, 10), (16, 11), (16, 12), (17, 1), (17, 2), (17, 3), (17, 4), (18, 1), (18, 2), (18, 3), (18, 4), (18, 5), (18, 6), (18, 7), (18, 8), (67, 0), (68, 0)] m0 m ∧ True ∧ (zE m0 a1 50 → zE m a0 50))) := by
  intro k
  induction k with
  | zero => exact ⟨fun x2 mh hImh hFmh hbx2 hM => by exfalso; omega, fun x2 mh hImh hFmh hbx2 hH0 hH1 hM => by exfalso; omega, fun x2 mh hImh hFmh hbx2 hH0 hH1 hH2 hM => by exfalso; omega⟩
  | succ k ih =>
    refine ⟨?_, ?_, ?_⟩
    · intro x2 mh hImh hFmh hbx2 hM
      refine zw_eq (zu_rega_at (zt_T n) (zm_22 n) (zdp_22 n) _ _ _ _ _ _ (zr_22b_10 n _ _ a0 a1 x2 mh)) ?_
      have r1 : 0 ≤ (mh a0 2) ∧ (mh a0 2) ≤ 16 := zi_rd hImh hc0 zb_16_2
      refine zw_ite (fun h2 => ?_) (fun h2 => ?_)
      · have r3 : 0 ≤ (mh a1 4) ∧ (mh a1 4) ≤ 4 := zi_rd hImh hc1 zb_19_4
        have s4 : (mh a1 4) = m0 a1 4 := zfr_ap hFmh hc1 rfl
        generalize hmm5 : zu_up mh a0 4 (mh a1 4) = m5
        have hIm5 := zi_up hmm5 hImh hc0 zb_16_4 (by omega) (by omega)
        have hFm5 := zfr_up hmm5 hFmh hc0 rfl
        have r6 : 0 ≤ (m5 a0 4) ∧ (m5 a0 4) ≤ 4 := zi_rd hIm5 hc0 zb_16_4
        have e7 : (m5 a0 4) = (mh a1 4) := (zs_eq hmm5)
        have hM : (4 - 0) * 1 + 49 < (k : Int) := by omega
        exact ih.2.1 0 m5 hIm5 hFm5 ⟨by omega, by omega⟩ (by omega) (zcc_0 _ _ _ _) hM
      · have b8 : 0 ≤ x2 ∧ x2 < 16 := by omega
        refine zw_if b8 ?_
        have b9 : 0 ≤ x2 ∧ x2 < 16 := by omega
        refine zw_if b9 ?_
        refine zw_bd (zw_mono (zk_197_17_20 n hImh (zc_65_e (zc_16_1 hc0) b8) (zc_70_e (zc_19_1 hc1) b9)) (fun v11 m10 hqm10 => ?_))
        obtain ⟨hIm10, hfm10, hvm10⟩ := hqm10
        have hFm10 := zfr_tr hFmh hfm10 rfl
        have w12 := zu_w32_id (z := x2 + 1) (by omega) (by omega)
        have hM : (16 - (zu_w32 (x2 + 1))) * 1 + 54 < (k : Int) := by omega
        exact ih.1 (zu_w32 (x2 + 1)) m10 hIm10 hFm10 ⟨by omega, by omega⟩ hM
    · intro x2 mh hImh hFmh hbx2 hH0 hH1 hM
      refine zw_eq (zu_rega_at (zt_T n) (zm_22 n) (zdp_22 n) _ _ _ _ _ _ (zr_22b_49 n _ _ a0 a1 x2 mh)) ?_
      have r13 : 0 ≤ (mh a0 4) ∧ (mh a0 4) ≤ 4 := zi_rd hImh hc0 zb_16_4
      refine zw_ite (fun h14 => ?_) (fun h14 => ?_)
      · have hM : (48 - 0) * 1 + 0 < (k : Int) := by omega
        exact ih.2.2 0 mh hImh hFmh ⟨by omega, by omega⟩ (by omega) (by omega) (zcc_x hH1 (by omega)) hM
      · have b15 : 0 ≤ x2 ∧ x2 < 4 := by omega
        refine zw_if b15 ?_
        have b16 : 0 ≤ x2 ∧ x2 < 4 := by omega
        refine zw_if b16 ?_
        have r19 : 0 ≤ (mh ((a1 + 2) + 20 + x2) 1) ∧ (mh ((a1 + 2) + 20 + x2) 1) ≤ 47 := zi_rd hImh (zc_71_e (zc_19_3 hc1) b16) zb_21_1
        refine zw_bd (zw_mono (zk_196_18_21 n hImh (zc_66_e (zc_16_3 hc0) b15) (zc_71_e (zc_19_3 hc1) b16)) (fun v18 m17 hqm17 => ?_))
        obtain ⟨hIm17, hfm17, hvm17⟩ := hqm17
        have hFm17 := zfr_tr hFmh hfm17 rfl
        have r20 : 0 ≤ (m17 ((a0 + 2) + 20 + x2) 1) ∧ (m17 ((a0 + 2) + 20 + x2) 1) ≤ 47 := zi_rd hIm17 (zc_66_e (zc_16_3 hc0) b15) zb_18_1
        have hcam17 : m17 ((a0 + 2) + 20 + x2) 1 = mh ((a1 + 2) + 20 + x2) 1 := (hvm17.2.1)
        have hcbm17 : mh ((a1 + 2) + 20 + x2) 1 = m0 ((a1 + 2) + 20 + x2) 1 := zfr_ap hFmh (zc_71_e (zc_19_3 hc1) b16) rfl
        have hccm17 := (hvm17.2.2)
        have w21 := zu_w32_id (z := x2 + 1) (by omega) (by omega)
        have r22 : 0 ≤ (m17 a0 4) ∧ (m17 a0 4) ≤ 4 := zi_rd hIm17 hc0 zb_16_4
        have e23 : (m17 a0 4) = (mh a0 4) := (zfr_ap hfm17 hc0 rfl)
        have hM : (4 - (zu_w32 (x2 + 1))) * 1 + 49 < (k : Int) := by omega
        exact ih.2.1 (zu_w32 (x2 + 1)) m17 hIm17 hFm17 ⟨by omega, by omega⟩ (by omega) (zcc_s hH1 hcam17 hcbm17 hccm17 (by omega) (by omega) (by omega)) hM
    · intro x2 mh hImh hFmh hbx2 hH0 hH1 hH2 hM
      refine zw_eq (zu_rega_at (zt_T n) (zm_22 n) (zdp_22 n) _ _ _ _ _ _ (zr_22b_80 n _ _ a0 a1 x2 mh)) ?_
      have r24 : 0 ≤ (mh a0 4) ∧ (mh a0 4) ≤ 4 := zi_rd hImh hc0 zb_16_4
      refine zw_ite (fun h25 => ?_) (fun h25 => ?_)
      · have r26 : 0 ≤ (mh a1 8) ∧ (mh a1 8) ≤ 9999 := zi_rd hImh hc1 zb_19_8
        generalize hmm27 : zu_up mh a0 8 (mh a1 8) = m27
        have hIm27 := zi_up hmm27 hImh hc0 zb_16_8 (by omega) (by omega)
        have hFm27 := zfr_up hmm27 hFmh hc0 rfl
        have r28 : (-2147483648) ≤ (m27 a1 9) ∧ (m27 a1 9) ≤ 2147483647 := zi_rd hIm27 hc1 zb_19_9
        generalize hmm29 : zu_up m27 a0 9 (m27 a1 9) = m29
        have hIm29 := zi_up hmm29 hIm27 hc0 zb_16_9 (by omega) (by omega)
        have hFm29 := zfr_up hmm29 hFm27 hc0 rfl
        have r30 : 0 ≤ (m29 a1 10) ∧ (m29 a1 10) ≤ 3 := zi_rd hIm29 hc1 zb_19_10
        generalize hmm31 : zu_up m29 a0 10 (m29 a1 10) = m31
        have hIm31 := zi_up hmm31 hIm29 hc0 zb_16_10 (by omega) (by omega)
        have hFm31 := zfr_up hmm31 hFm29 hc0 rfl
        have r32 : (-2147483648) ≤ (m31 a1 11) ∧ (m31 a1 11) ≤ 2147483647 := zi_rd hIm31 hc1 zb_19_11
        generalize hmm33 : zu_up m31 a0 11 (m31 a1 11) = m33
        have hIm33 := zi_up hmm33 hIm31 hc0 zb_16_11 (by omega) (by omega)
        have hFm33 := zfr_up hmm33 hFm31 hc0 rfl
        have r34 : 0 ≤ (m33 a0 4) ∧ (m33 a0 4) ≤ 4 := zi_rd hIm33 hc0 zb_16_4
        have e35 : (m33 a0 4) = (mh a0 4) := (Eq.trans (zs_ne hmm33 (Or.inr (by decide))) (Eq.trans (zs_ne hmm31 (Or.inr (by decide))) (Eq.trans (zs_ne hmm29 (Or.inr (by decide))) (zs_ne hmm27 (Or.inr (by decide))))))
        exact zw_some ⟨hIm33, hFm33, trivial, (fun hE => zE_cp (zcc_mv hH2 (by omega) (fun c h0 h4 => (Eq.trans (zs_ne hmm33 (Or.inl (zc_ne (zc_66_e (zc_16_3 hc0) ⟨h0, h4⟩) hc0 (by decide)))) (Eq.trans (zs_ne hmm31 (Or.inl (zc_ne (zc_66_e (zc_16_3 hc0) ⟨h0, h4⟩) hc0 (by decide)))) (Eq.trans (zs_ne hmm29 (Or.inl (zc_ne (zc_66_e (zc_16_3 hc0) ⟨h0, h4⟩) hc0 (by decide)))) (zs_ne hmm27 (Or.inl (zc_ne (zc_66_e (zc_16_3 hc0) ⟨h0, h4⟩) hc0 (by decide))))))))) (by omega) (by omega) (zfr_ap hFm33 zq_50 rfl) hE)⟩
      · have b36 : 0 ≤ x2 ∧ x2 < 48 := by omega
        refine zw_if b36 ?_
        have r37 : 0 ≤ (mh (a1 + 3) x2) ∧ (mh (a1 + 3) x2) ≤ 1 := zi_rd hImh (zc_19_5 hc1) (zb_72 _)
        refine zw_b (by omega) ?_
        have b38 : 0 ≤ x2 ∧ x2 < 48 := by omega
        refine zw_if b38 ?_
        generalize hmm39 : zu_up mh (a0 + 3) x2 (mh (a1 + 3) x2) = m39
        have hIm39 := zi_up hmm39 hImh (zc_16_5 hc0) (zb_67 _) (by omega) (by omega)
        have hFm39 := zfr_up hmm39 hFmh (zc_16_5 hc0) rfl
        have b40 : 0 ≤ x2 ∧ x2 < 48 := by omega
        refine zw_if b40 ?_
        have r41 : 0 ≤ (m39 (a1 + 4) x2) ∧ (m39 (a1 + 4) x2) ≤ 999000 := zi_rd hIm39 (zc_19_6 hc1) (zb_73 _)
        have b42 : 0 ≤ x2 ∧ x2 < 48 := by omega
        refine zw_if b42 ?_
        generalize hmm43 : zu_up m39 (a0 + 4) x2 (m39 (a1 + 4) x2) = m43
        have hIm43 := zi_up hmm43 hIm39 (zc_16_6 hc0) (zb_68 _) (by omega) (by omega)
        have hFm43 := zfr_up hmm43 hFm39 (zc_16_6 hc0) rfl
        have w44 := zu_w32_id (z := x2 + 1) (by omega) (by omega)
        have r45 : 0 ≤ (m43 a0 4) ∧ (m43 a0 4) ≤ 4 := zi_rd hIm43 hc0 zb_16_4
        have e46 : (m43 a0 4) = (mh a0 4) := (Eq.trans (zs_ne hmm43 (Or.inl (zc_ne hc0 (zc_16_6 hc0) (by decide)))) (zs_ne hmm39 (Or.inl (zc_ne hc0 (zc_16_5 hc0) (by decide)))))
        have hM : (48 - (zu_w32 (x2 + 1))) * 1 + 0 < (k : Int) := by omega
        exact ih.2.2 (zu_w32 (x2 + 1)) m43 hIm43 hFm43 ⟨by omega, by omega⟩ (by omega) (by omega) (zcc_mv hH2 (by omega) (fun c h0 h4 => (Eq.trans (zs_ne hmm43 (Or.inl (zc_ne (zc_66_e (zc_16_3 hc0) ⟨h0, h4⟩) (zc_16_6 hc0) (by decide)))) (zs_ne hmm39 (Or.inl (zc_ne (zc_66_e (zc_16_3 hc0) ⟨h0, h4⟩) (zc_16_5 hc0) (by decide))))))) hM
set_option maxHeartbeats 4000000 in
theorem zk_22_16_19 (n : Nat) {a0 a1 : Int} {m0 : zu_m} (hIm0 : zi_I m0) (hc0 : zcls a0 = 16) (hc1 : zcls a1 = 19)      : zw (zu_call (zt_T n) 22 [(27, a0), (27, a1)] m0) (fun v m => zi_I m ∧ zfr [(16, 3), (16, 5), (16, 9), (16, 10), (16, 11), (16, 12), (17, 1), (17, 2), (17, 3), (17, 4), (18, 1), (18, 2), (18, 3), (18, 4), (18, 5), (18, 6), (18, 7), (18, 8), (67, 0), (68, 0)] m0 m ∧ True ∧ (zE m0 a1 50 → zE m a0 50)) := by
  have hFm0 : zfr [(16, 3), (16, 5), (16, 9), (16, 10), (16, 11), (16, 12), (17, 1), (17, 2), (17, 3), (17, 4), (18, 1), (18, 2), (18, 3), (18, 4), (18, 5), (18, 6), (18, 7), (18, 8), (67, 0), (68, 0)] m0 m0 := zfr_rf _ _
  have r47 : 0 ≤ (m0 a1 4) ∧ (m0 a1 4) ≤ 4 := zi_rd hIm0 hc1 zb_19_4
  refine zw_eq (zu_call_at (zt_T n) (zm_22 n) (zdp_22 n) _ _ _ _ _ rfl (zr_22b_0 n _ _ a0 a1 m0)) ?_
  have r48 : 0 ≤ (m0 a1 2) ∧ (m0 a1 2) ≤ 16 := zi_rd hIm0 hc1 zb_19_2
  generalize hmm49 : zu_up m0 a0 2 (m0 a1 2) = m49
  have hIm49 := zi_up hmm49 hIm0 hc0 zb_16_2 (by omega) (by omega)
  have hFm49 := zfr_up hmm49 hFm0 hc0 rfl
  have hM : (16 - 0) * 1 + 54 < ((71 : Nat) : Int) := by omega
  exact (zl_22_16_19 n (m0 := m0) hc0 hc1 71).1 0 m49 hIm49 hFm49 ⟨by omega, by omega⟩ hM
set_option maxHeartbeats 4000000 in
theorem zl_22_19_16 (n : Nat) {a0 a1 : Int} {m0 : zu_m} (hc0 : zcls a0 = 19) (hc1 : zcls a1 = 16)   : ∀ k : Nat, (∀ (x2 : Int) (mh : zu_m), zi_I mh → zfr [(19, 3), (19, 5), (19, 9), (19, 10), (19, 11), (19, 12), (20, 1), (20, 2), (20, 3), (20, 4), (21, 1), (21, 2), (21, 3), (21, 4), (21, 5), (21, 6), (21, 7), (21, 8), (72, 0), (73, 0)] m0 mh → (0 ≤ x2 ∧ x2 ≤ 16) → (16 - x2) * 1 + 54 < (k : Int) → zw (zu_ex (zt_T n) 22 10 [(27, a0), (27, a1), (0, x2)] [] mh) (fun v m => zi_I m ∧ zfr [(19, 3), (19, 5), (19, 9), (19, 10), (19, 11), (19, 12), (20, 1), (20, 2), (20, 3), (20, 4), (21, 1), (21, 2), (21, 3), (21, 4), (21, 5), (21, 6), (21, 7), (21, 8), (72, 0), (73, 0)] m0 m ∧ True ∧ (zE m0 a1 50 → zE m a0 50))) ∧ (∀ (x2 : Int) (mh : zu_m), zi_I mh → zfr [(19, 3), (19, 5), (19, 9), (19, 10), (19, 11), (19, 12), (20, 1), (20, 2), (20, 3), (20, 4), (21, 1), (21, 2), (21, 3), (21, 4), (21, 5), (21, 6), (21, 7), (21, 8), (72, 0), (73, 0)] m0 mh → (0 ≤ x2 ∧ x2 ≤ 4) → ((mh a0 4) = (m0 a1 4)) → (zcc m0 mh a0 a1 x2) → (4 - x2) * 1 + 49 < (k : Int) → zw (zu_ex (zt_T n) 22 49 [(27, a0), (27, a1), (0, x2)] [] mh) (fun v m => zi_I m ∧ zfr [(19, 3), (19, 5), (19, 9), (19, 10), (19, 11), (19, 12), (20, 1), (20, 2), (20, 3), (20, 4), (21, 1), (21, 2), (21, 3), (21, 4), (21, 5), (21, 6), (21, 7), (21, 8), (72, 0), (73, 0)] m0 m ∧ True ∧ (zE m0 a1 50 → zE m a0 50))) ∧ (∀ (x2 : Int) (mh : zu_m), zi_I mh → zfr [(19, 3), (19, 5), (19, 9), (19, 10), (19, 11), (19, 12), (20, 1), (20, 2), (20, 3), (20, 4), (21, 1), (21, 2), (21, 3), (21, 4), (21, 5), (21, 6), (21, 7), (21, 8), (72, 0), (73, 0)] m0 mh → (0 ≤ x2 ∧ x2 ≤ 48) → ((mh a0 4) = (m0 a1 4)) → ((m0 a1 4) ≤ 4) → (zcc m0 mh a0 a1 (m0 a1 4)) → (48 - x2) * 1 + 0 < (k : Int) → zw (zu_ex (zt_T n) 22 80 [(27, a0), (27, a1), (0, x2)] [] mh) (fun v m => zi_I m ∧ zfr [(19, 3), (19, 5), (19, 9), (19, 10), (19, 11), (19, 12), (20, 1), (20, 2), (20, 3), (20, 4), (21, 1), (21, 2), (21, 3), (21, 4), (21, 5), (21, 6), (21, 7), (21, 8), (72, 0), (73, 0)] m0 m ∧ True ∧ (zE m0 a1 50 → zE m a0 50))) := by
  intro k
  induction k with
  | zero => exact ⟨fun x2 mh hImh hFmh hbx2 hM => by exfalso; omega, fun x2 mh hImh hFmh hbx2 hH0 hH1 hM => by exfalso; omega, fun x2 mh hImh hFmh hbx2 hH0 hH1 hH2 hM => by exfalso; omega⟩
  | succ k ih =>
    refine ⟨?_, ?_, ?_⟩
    · intro x2 mh hImh hFmh hbx2 hM
      refine zw_eq (zu_rega_at (zt_T n) (zm_22 n) (zdp_22 n) _ _ _ _ _ _ (zr_22b_10 n _ _ a0 a1 x2 mh)) ?_
      have r1 : 0 ≤ (mh a0 2) ∧ (mh a0 2) ≤ 16 := zi_rd hImh hc0 zb_19_2
      refine zw_ite (fun h2 => ?_) (fun h2 => ?_)
      · have r3 : 0 ≤ (mh a1 4) ∧ (mh a1 4) ≤ 4 := zi_rd hImh hc1 zb_16_4
        have s4 : (mh a1 4) = m0 a1 4 := zfr_ap hFmh hc1 rfl
        generalize hmm5 : zu_up mh a0 4 (mh a1 4) = m5
        have hIm5 := zi_up hmm5 hImh hc0 zb_19_4 (by omega) (by omega)
        have hFm5 := zfr_up hmm5 hFmh hc0 rfl
        have r6 : 0 ≤ (m5 a0 4) ∧ (m5 a0 4) ≤ 4 := zi_rd hIm5 hc0 zb_19_4
        have e7 : (m5 a0 4) = (mh a1 4) := (zs_eq hmm5)
        have hM : (4 - 0) * 1 + 49 < (k : Int) := by omega
        exact ih.2.1 0 m5 hIm5 hFm5 ⟨by omega, by omega⟩ (by omega) (zcc_0 _ _ _ _) hM
      · have b8 : 0 ≤ x2 ∧ x2 < 16 := by omega
        refine zw_if b8 ?_
        have b9 : 0 ≤ x2 ∧ x2 < 16 := by omega
        refine zw_if b9 ?_
        refine zw_bd (zw_mono (zk_197_20_17 n hImh (zc_70_e (zc_19_1 hc0) b8) (zc_65_e (zc_16_1 hc1) b9)) (fun v11 m10 hqm10 => ?_))
        obtain ⟨hIm10, hfm10, hvm10⟩ := hqm10
        have hFm10 := zfr_tr hFmh hfm10 rfl
        have w12 := zu_w32_id (z := x2 + 1) (by omega) (by omega)
        have hM : (16 - (zu_w32 (x2 + 1))) * 1 + 54 < (k : Int) := by omega
        exact ih.1 (zu_w32 (x2 + 1)) m10 hIm10 hFm10 ⟨by omega, by omega⟩ hM
    · intro x2 mh hImh hFmh hbx2 hH0 hH1 hM
      refine zw_eq (zu_rega_at (zt_T n) (zm_22 n) (zdp_22 n) _ _ _ _ _ _ (zr_22b_49 n _ _ a0 a1 x2 mh)) ?_
      have r13 : 0 ≤ (mh a0 4) ∧ (mh a0 4) ≤ 4 := zi_rd hImh hc0 zb_19_4
      refine zw_ite (fun h14 => ?_) (fun h14 => ?_)
      · have hM : (48 - 0) * 1 + 0 < (k : Int) := by omega
        exact ih.2.2 0 mh hImh hFmh ⟨by omega, by omega⟩ (by omega) (by omega) (zcc_x hH1 (by omega)) hM
      · have b15 : 0 ≤ x2 ∧ x2 < 4 := by omega
        refine zw_if b15 ?_
        have b16 : 0 ≤ x2 ∧ x2 < 4 := by omega
        refine zw_if b16 ?_
        have r19 : 0 ≤ (mh ((a1 + 2) + 20 + x2) 1) ∧ (mh ((a1 + 2) + 20 + x2) 1) ≤ 47 := zi_rd hImh (zc_66_e (zc_16_3 hc1) b16) zb_18_1
        refine zw_bd (zw_mono (zk_196_21_18 n hImh (zc_71_e (zc_19_3 hc0) b15) (zc_66_e (zc_16_3 hc1) b16)) (fun v18 m17 hqm17 => ?_))
        obtain ⟨hIm17, hfm17, hvm17⟩ := hqm17
        have hFm17 := zfr_tr hFmh hfm17 rfl
        have r20 : 0 ≤ (m17 ((a0 + 2) + 20 + x2) 1) ∧ (m17 ((a0 + 2) + 20 + x2) 1) ≤ 47 := zi_rd hIm17 (zc_71_e (zc_19_3 hc0) b15) zb_21_1
        have hcam17 : m17 ((a0 + 2) + 20 + x2) 1 = mh ((a1 + 2) + 20 + x2) 1 := (hvm17.2.1)
        have hcbm17 : mh ((a1 + 2) + 20 + x2) 1 = m0 ((a1 + 2) + 20 + x2) 1 := zfr_ap hFmh (zc_66_e (zc_16_3 hc1) b16) rfl
        have hccm17 := (hvm17.2.2)
        have w21 := zu_w32_id (z := x2 + 1) (by omega) (by omega)
        have r22 : 0 ≤ (m17 a0 4) ∧ (m17 a0 4) ≤ 4 := zi_rd hIm17 hc0 zb_19_4
        have e23 : (m17 a0 4) = (mh a0 4) := (zfr_ap hfm17 hc0 rfl)
        have hM : (4 - (zu_w32 (x2 + 1))) * 1 + 49 < (k : Int) := by omega
        exact ih.2.1 (zu_w32 (x2 + 1)) m17 hIm17 hFm17 ⟨by omega, by omega⟩ (by omega) (zcc_s hH1 hcam17 hcbm17 hccm17 (by omega) (by omega) (by omega)) hM
    · intro x2 mh hImh hFmh hbx2 hH0 hH1 hH2 hM
      refine zw_eq (zu_rega_at (zt_T n) (zm_22 n) (zdp_22 n) _ _ _ _ _ _ (zr_22b_80 n _ _ a0 a1 x2 mh)) ?_
      have r24 : 0 ≤ (mh a0 4) ∧ (mh a0 4) ≤ 4 := zi_rd hImh hc0 zb_19_4
      refine zw_ite (fun h25 => ?_) (fun h25 => ?_)
      · have r26 : 0 ≤ (mh a1 8) ∧ (mh a1 8) ≤ 9999 := zi_rd hImh hc1 zb_16_8
        generalize hmm27 : zu_up mh a0 8 (mh a1 8) = m27
        have hIm27 := zi_up hmm27 hImh hc0 zb_19_8 (by omega) (by omega)
        have hFm27 := zfr_up hmm27 hFmh hc0 rfl
        have r28 : (-2147483648) ≤ (m27 a1 9) ∧ (m27 a1 9) ≤ 2147483647 := zi_rd hIm27 hc1 zb_16_9
        generalize hmm29 : zu_up m27 a0 9 (m27 a1 9) = m29
        have hIm29 := zi_up hmm29 hIm27 hc0 zb_19_9 (by omega) (by omega)
        have hFm29 := zfr_up hmm29 hFm27 hc0 rfl
        have r30 : 0 ≤ (m29 a1 10) ∧ (m29 a1 10) ≤ 3 := zi_rd hIm29 hc1 zb_16_10
        generalize hmm31 : zu_up m29 a0 10 (m29 a1 10) = m31
        have hIm31 := zi_up hmm31 hIm29 hc0 zb_19_10 (by omega) (by omega)
        have hFm31 := zfr_up hmm31 hFm29 hc0 rfl
        have r32 : (-2147483648) ≤ (m31 a1 11) ∧ (m31 a1 11) ≤ 2147483647 := zi_rd hIm31 hc1 zb_16_11
        generalize hmm33 : zu_up m31 a0 11 (m31 a1 11) = m33
        have hIm33 := zi_up hmm33 hIm31 hc0 zb_19_11 (by omega) (by omega)
        have hFm33 := zfr_up hmm33 hFm31 hc0 rfl
        have r34 : 0 ≤ (m33 a0 4) ∧ (m33 a0 4) ≤ 4 := zi_rd hIm33 hc0 zb_19_4
        have e35 : (m33 a0 4) = (mh a0 4) := (Eq.trans (zs_ne hmm33 (Or.inr (by decide))) (Eq.trans (zs_ne hmm31 (Or.inr (by decide))) (Eq.trans (zs_ne hmm29 (Or.inr (by decide))) (zs_ne hmm27 (Or.inr (by decide))))))
        exact zw_some ⟨hIm33, hFm33, trivial, (fun hE => zE_cp (zcc_mv hH2 (by omega) (fun c h0 h4 => (Eq.trans (zs_ne hmm33 (Or.inl (zc_ne (zc_71_e (zc_19_3 hc0) ⟨h0, h4⟩) hc0 (by decide)))) (Eq.trans (zs_ne hmm31 (Or.inl (zc_ne (zc_71_e (zc_19_3 hc0) ⟨h0, h4⟩) hc0 (by decide)))) (Eq.trans (zs_ne hmm29 (Or.inl (zc_ne (zc_71_e (zc_19_3 hc0) ⟨h0, h4⟩) hc0 (by decide)))) (zs_ne hmm27 (Or.inl (zc_ne (zc_71_e (zc_19_3 hc0) ⟨h0, h4⟩) hc0 (by decide))))))))) (by omega) (by omega) (zfr_ap hFm33 zq_50 rfl) hE)⟩
      · have b36 : 0 ≤ x2 ∧ x2 < 48 := by omega
        refine zw_if b36 ?_
        have r37 : 0 ≤ (mh (a1 + 3) x2) ∧ (mh (a1 + 3) x2) ≤ 1 := zi_rd hImh (zc_16_5 hc1) (zb_67 _)
        refine zw_b (by omega) ?_
        have b38 : 0 ≤ x2 ∧ x2 < 48 := by omega
        refine zw_if b38 ?_
        generalize hmm39 : zu_up mh (a0 + 3) x2 (mh (a1 + 3) x2) = m39
        have hIm39 := zi_up hmm39 hImh (zc_19_5 hc0) (zb_72 _) (by omega) (by omega)
        have hFm39 := zfr_up hmm39 hFmh (zc_19_5 hc0) rfl
        have b40 : 0 ≤ x2 ∧ x2 < 48 := by omega
        refine zw_if b40 ?_
        have r41 : 0 ≤ (m39 (a1 + 4) x2) ∧ (m39 (a1 + 4) x2) ≤ 999000 := zi_rd hIm39 (zc_16_6 hc1) (zb_68 _)
        have b42 : 0 ≤ x2 ∧ x2 < 48 := by omega
        refine zw_if b42 ?_
        generalize hmm43 : zu_up m39 (a0 + 4) x2 (m39 (a1 + 4) x2) = m43
        have hIm43 := zi_up hmm43 hIm39 (zc_19_6 hc0) (zb_73 _) (by omega) (by omega)
        have hFm43 := zfr_up hmm43 hFm39 (zc_19_6 hc0) rfl
        have w44 := zu_w32_id (z := x2 + 1) (by omega) (by omega)
        have r45 : 0 ≤ (m43 a0 4) ∧ (m43 a0 4) ≤ 4 := zi_rd hIm43 hc0 zb_19_4
        have e46 : (m43 a0 4) = (mh a0 4) := (Eq.trans (zs_ne hmm43 (Or.inl (zc_ne hc0 (zc_19_6 hc0) (by decide)))) (zs_ne hmm39 (Or.inl (zc_ne hc0 (zc_19_5 hc0) (by decide)))))
        have hM : (48 - (zu_w32 (x2 + 1))) * 1 + 0 < (k : Int) := by omega
        exact ih.2.2 (zu_w32 (x2 + 1)) m43 hIm43 hFm43 ⟨by omega, by omega⟩ (by omega) (by omega) (zcc_mv hH2 (by omega) (fun c h0 h4 => (Eq.trans (zs_ne hmm43 (Or.inl (zc_ne (zc_71_e (zc_19_3 hc0) ⟨h0, h4⟩) (zc_19_6 hc0) (by decide)))) (zs_ne hmm39 (Or.inl (zc_ne (zc_71_e (zc_19_3 hc0) ⟨h0, h4⟩) (zc_19_5 hc0) (by decide))))))) hM
set_option maxHeartbeats 4000000 in
theorem zk_22_19_16 (n : Nat) {a0 a1 : Int} {m0 : zu_m} (hIm0 : zi_I m0) (hc0 : zcls a0 = 19) (hc1 : zcls a1 = 16)      : zw (zu_call (zt_T n) 22 [(27, a0), (27, a1)] m0) (fun v m => zi_I m ∧ zfr [(19, 3), (19, 5), (19, 9), (19, 10), (19, 11), (19, 12), (20, 1), (20, 2), (20, 3), (20, 4), (21, 1), (21, 2), (21, 3), (21, 4), (21, 5), (21, 6), (21, 7), (21, 8), (72, 0), (73, 0)] m0 m ∧ True ∧ (zE m0 a1 50 → zE m a0 50)) := by
  have hFm0 : zfr [(19, 3), (19, 5), (19, 9), (19, 10), (19, 11), (19, 12), (20, 1), (20, 2), (20, 3), (20, 4), (21, 1), (21, 2), (21, 3), (21, 4), (21, 5), (21, 6), (21, 7), (21, 8), (72, 0), (73, 0)] m0 m0 := zfr_rf _ _
  have r47 : 0 ≤ (m0 a1 4) ∧ (m0 a1 4) ≤ 4 := zi_rd hIm0 hc1 zb_16_4
  refine zw_eq (zu_call_at (zt_T n) (zm_22 n) (zdp_22 n) _ _ _ _ _ rfl (zr_22b_0 n _ _ a0 a1 m0)) ?_
  have r48 : 0 ≤ (m0 a1 2) ∧ (m0 a1 2) ≤ 16 := zi_rd hIm0 hc1 zb_16_2
  generalize hmm49 : zu_up m0 a0 2 (m0 a1 2) = m49
  have hIm49 := zi_up hmm49 hIm0 hc0 zb_19_2 (by omega) (by omega)
  have hFm49 := zfr_up hmm49 hFm0 hc0 rfl
  have hM : (16 - 0) * 1 + 54 < ((71 : Nat) : Int) := by omega
  exact (zl_22_19_16 n (m0 := m0) hc0 hc1 71).1 0 m49 hIm49 hFm49 ⟨by omega, by omega⟩ hM
set_option maxHeartbeats 4000000 in
theorem zl_22_25_13 (n : Nat) {a0 a1 : Int} {m0 : zu_m} (hc0 : zcls a0 = 25) (hc1 : zcls a1 = 13)   : ∀ k : Nat, (∀ (x2 : Int) (mh : zu_m), zi_I mh → zfr [(25, 3), (25, 5), (25, 9), (25, 10), (25, 11), (25, 12), (26, 1), (26, 2), (26, 3), (26, 4), (27, 1), (27, 2), (27, 3), (27, 4), (27, 5), (27, 6), (27, 7), (27, 8), (97, 0), (98, 0)] m0 mh → (0 ≤ x2 ∧ x2 ≤ 16) → (16 - x2) * 1 + 54 < (k : Int) → zw (zu_ex (zt_T n) 22 10 [(27, a0), (27, a1), (0, x2)] [] mh) (fun v m => zi_I m ∧ zfr [(25, 3), (25, 5), (25, 9), (25, 10), (25, 11), (25, 12), (26, 1), (26, 2), (26, 3), (26, 4), (27, 1), (27, 2), (27, 3), (27, 4), (27, 5), (27, 6), (27, 7), (27, 8), (97, 0), (98, 0)] m0 m ∧ True ∧ (0 ≤ m a0 8 ∧ m a0 8 ≤ 9999) ∧ (zE m0 a1 50 → zE m a0 50))) ∧ (∀ (x2 : Int) (mh : zu_m), zi_I mh → zfr [(25, 3), (25, 5), (25, 9), (25, 10), (25, 11), (25, 12), (26, 1), (26, 2), (26, 3), (26, 4), (27, 1), (27, 2), (27, 3), (27, 4), (27, 5), (27, 6), (27, 7), (27, 8), (97, 0), (98, 0)] m0 mh → (0 ≤ x2 ∧ x2 ≤ 4) → ((mh a0 4) = (m0 a1 4)) → (zcc m0 mh a0 a1 x2) → (4 - x2) * 1 + 49 < (k : Int) → zw (zu_ex (zt_T n) 22 49 [(27, a0), (27, a1), (0, x2)] [] mh) (fun v m => zi_I m ∧ zfr [(25, 3), (25, 5), (25, 9), (25, 10), (25, 11), (25, 12), (26, 1), (26, 2), (26, 3), (26, 4), (27, 1), (27, 2), (27, 3), (27, 4), (27, 5), (27, 6), (27, 7), (27, 8), (97, 0), (98, 0)] m0 m ∧ True ∧ (0 ≤ m a0 8 ∧ m a0 8 ≤ 9999) ∧ (zE m0 a1 50 → zE m a0 50))) ∧ (∀ (x2 : Int) (mh : zu_m), zi_I mh → zfr [(25, 3), (25, 5), (25, 9), (25, 10), (25, 11), (25, 12), (26, 1), (26, 2), (26, 3), (26, 4), (27, 1), (27, 2), (27, 3), (27, 4), (27, 5), (27, 6), (27, 7), (27, 8), (97, 0), (98, 0)] m0 mh → (0 ≤ x2 ∧ x2 ≤ 48) → ((mh a0 4) = (m0 a1 4)) → ((m0 a1 4) ≤ 4) → (zcc m0 mh a0 a1 (m0 a1 4)) → (48 - x2) * 1 + 0 < (k : Int) → zw (zu_ex (zt_T n) 22 80 [(27, a0), (27, a1), (0, x2)] [] mh) (fun v m => zi_I m ∧ zfr [(25, 3), (25, 5), (25, 9), (25, 10), (25, 11), (25, 12), (26, 1), (26, 2), (26, 3), (26, 4), (27, 1), (27, 2), (27, 3), (27, 4), (27, 5), (27, 6), (27, 7), (27, 8), (97, 0), (98, 0)] m0 m ∧ True ∧ (0 ≤ m a0 8 ∧ m a0 8 ≤ 9999) ∧ (zE m0 a1 50 → zE m a0 50))) := by
  intro k
  induction k with
  | zero => exact ⟨fun x2 mh hImh hFmh hbx2 hM => by exfalso; omega, fun x2 mh hImh hFmh hbx2 hH0 hH1 hM => by exfalso; omega, fun x2 mh hImh hFmh hbx2 hH0 hH1 hH2 hM => by exfalso; omega⟩
  | succ k ih =>
    refine ⟨?_, ?_, ?_⟩
    · intro x2 mh hImh hFmh hbx2 hM
      refine zw_eq (zu_rega_at (zt_T n) (zm_22 n) (zdp_22 n) _ _ _ _ _ _ (zr_22b_10 n _ _ a0 a1 x2 mh)) ?_
      have r1 : 0 ≤ (mh a0 2) ∧ (mh a0 2) ≤ 16 := zi_rd hImh hc0 zb_25_2
      refine zw_ite (fun h2 => ?_) (fun h2 => ?_)
      · have r3 : 0 ≤ (mh a1 4) ∧ (mh a1 4) ≤ 4 := zi_rd hImh hc1 zb_13_4
        have s4 : (mh a1 4) = m0 a1 4 := zfr_ap hFmh hc1 rfl
        generalize hmm5 : zu_up mh a0 4 (mh a1 4) = m5
        have hIm5 := zi_up hmm5 hImh hc0 zb_25_4 (by omega) (by omega)
        have hFm5 := zfr_up hmm5 hFmh hc0 rfl
        have r6 : 0 ≤ (m5 a0 4) ∧ (m5 a0 4) ≤ 4 := zi_rd hIm5 hc0 zb_25_4
        have e7 : (m5 a0 4) = (mh a1 4) := (zs_eq hmm5)
        have hM : (4 - 0) * 1 + 49 < (k : Int) := by omega
        exact ih.2.1 0 m5 hIm5 hFm5 ⟨by omega, by omega⟩ (by omega) (zcc_0 _ _ _ _) hM
      · have b8 : 0 ≤ x2 ∧ x2 < 16 := by omega
        refine zw_if b8 ?_
        have b9 : 0 ≤ x2 ∧ x2 < 16 := by omega
        refine zw_if b9 ?_
        refine zw_bd (zw_mono (zk_197_26_14 n hImh (zc_95_e (zc_25_1 hc0) b8) (zc_60_e (zc_13_1 hc1) b9)) (fun v11 m10 hqm10 => ?_))
        obtain ⟨hIm10, hfm10, hvm10⟩ := hqm10
        have hFm10 := zfr_tr hFmh hfm10 rfl
        have w12 := zu_w32_id (z := x2 + 1) (by omega) (by omega)
        have hM : (16 - (zu_w32 (x2 + 1))) * 1 + 54 < (k : Int) := by omega
        exact ih.1 (zu_w32 (x2 + 1)) m10 hIm10 hFm10 ⟨by omega, by omega⟩ hM
    · intro x2 mh hImh hFmh hbx2 hH0 hH1 hM
      refine zw_eq (zu_rega_at (zt_T n) (zm_22 n) (zdp_22 n) _ _ _ _ _ _ (zr_22b_49 n _ _ a0 a1 x2 mh)) ?_
      have r13 : 0 ≤ (mh a0 4) ∧ (mh a0 4) ≤ 4 := zi_rd hImh hc0 zb_25_4
      refine zw_ite (fun h14 => ?_) (fun h14 => ?_)
      · have hM : (48 - 0) * 1 + 0 < (k : Int) := by omega
        exact ih.2.2 0 mh hImh hFmh ⟨by omega, by omega⟩ (by omega) (by omega) (zcc_x hH1 (by omega)) hM
      · have b15 : 0 ≤ x2 ∧ x2 < 4 := by omega
        refine zw_if b15 ?_
        have b16 : 0 ≤ x2 ∧ x2 < 4 := by omega
        refine zw_if b16 ?_
        have r19 : 0 ≤ (mh ((a1 + 2) + 20 + x2) 1) ∧ (mh ((a1 + 2) + 20 + x2) 1) ≤ 47 := zi_rd hImh (zc_61_e (zc_13_3 hc1) b16) zb_15_1
        refine zw_bd (zw_mono (zk_196_27_15 n hImh (zc_96_e (zc_25_3 hc0) b15) (zc_61_e (zc_13_3 hc1) b16)) (fun v18 m17 hqm17 => ?_))
        obtain ⟨hIm17, hfm17, hvm17⟩ := hqm17
        have hFm17 := zfr_tr hFmh hfm17 rfl
        have r20 : 0 ≤ (m17 ((a0 + 2) + 20 + x2) 1) ∧ (m17 ((a0 + 2) + 20 + x2) 1) ≤ 47 := zi_rd hIm17 (zc_96_e (zc_25_3 hc0) b15) zb_27_1
        have hcam17 : m17 ((a0 + 2) + 20 + x2) 1 = mh ((a1 + 2) + 20 + x2) 1 := (hvm17.2.1)
        have hcbm17 : mh ((a1 + 2) + 20 + x2) 1 = m0 ((a1 + 2) + 20 + x2) 1 := zfr_ap hFmh (zc_61_e (zc_13_3 hc1) b16) rfl
        have hccm17 := (hvm17.2.2)
        have w21 := zu_w32_id (z := x2 + 1) (by omega) (by omega)
        have r22 : 0 ≤ (m17 a0 4) ∧ (m17 a0 4) ≤ 4 := zi_rd hIm17 hc0 zb_25_4
        have e23 : (m17 a0 4) = (mh a0 4) := (zfr_ap hfm17 hc0 rfl)
        have hM : (4 - (zu_w32 (x2 + 1))) * 1 + 49 < (k : Int) := by omega
        exact ih.2.1 (zu_w32 (x2 + 1)) m17 hIm17 hFm17 ⟨by omega, by omega⟩ (by omega) (zcc_s hH1 hcam17 hcbm17 hccm17 (by omega) (by omega) (by omega)) hM
    · intro x2 mh hImh hFmh hbx2 hH0 hH1 hH2 hM
      refine zw_eq (zu_rega_at (zt_T n) (zm_22 n) (zdp_22 n) _ _ _ _ _ _ (zr_22b_80 n _ _ a0 a1 x2 mh)) ?_
      have r24 : 0 ≤ (mh a0 4) ∧ (mh a0 4) ≤ 4 := zi_rd hImh hc0 zb_25_4
      refine zw_ite (fun h25 => ?_) (fun h25 => ?_)
      · have r26 : 0 ≤ (mh a1 8) ∧ (mh a1 8) ≤ 9999 := zi_rd hImh hc1 zb_13_8
        generalize hmm27 : zu_up mh a0 8 (mh a1 8) = m27
        have hIm27 := zi_up hmm27 hImh hc0 zb_25_8 (by omega) (by omega)
        have hFm27 := zfr_up hmm27 hFmh hc0 rfl
        have r28 : (-2147483648) ≤ (m27 a1 9) ∧ (m27 a1 9) ≤ 2147483647 := zi_rd hIm27 hc1 zb_13_9
        generalize hmm29 : zu_up m27 a0 9 (m27 a1 9) = m29
        have hIm29 := zi_up hmm29 hIm27 hc0 zb_25_9 (by omega) (by omega)
        have hFm29 := zfr_up hmm29 hFm27 hc0 rfl
        have r30 : 0 ≤ (m29 a1 10) ∧ (m29 a1 10) ≤ 3 := zi_rd hIm29 hc1 zb_13_10
        generalize hmm31 : zu_up m29 a0 10 (m29 a1 10) = m31
        have hIm31 := zi_up hmm31 hIm29 hc0 zb_25_10 (by omega) (by omega)
        have hFm31 := zfr_up hmm31 hFm29 hc0 rfl
        have r32 : (-2147483648) ≤ (m31 a1 11) ∧ (m31 a1 11) ≤ 2147483647 := zi_rd hIm31 hc1 zb_13_11
        generalize hmm33 : zu_up m31 a0 11 (m31 a1 11) = m33
        have hIm33 := zi_up hmm33 hIm31 hc0 zb_25_11 (by omega) (by omega)
        have hFm33 := zfr_up hmm33 hFm31 hc0 rfl
        have r34 : 0 ≤ (m33 a0 4) ∧ (m33 a0 4) ≤ 4 := zi_rd hIm33 hc0 zb_25_4
        have e35 : (m33 a0 4) = (mh a0 4) := (Eq.trans (zs_ne hmm33 (Or.inr (by decide))) (Eq.trans (zs_ne hmm31 (Or.inr (by decide))) (Eq.trans (zs_ne hmm29 (Or.inr (by decide))) (zs_ne hmm27 (Or.inr (by decide))))))
        have r36 : 0 ≤ (m33 a0 8) ∧ (m33 a0 8) ≤ 20000 := zi_rd hIm33 hc0 zb_25_8
        have e37 : (m33 a0 8) = (mh a1 8) := (Eq.trans (zs_ne hmm33 (Or.inr (by decide))) (Eq.trans (zs_ne hmm31 (Or.inr (by decide))) (Eq.trans (zs_ne hmm29 (Or.inr (by decide))) (zs_eq hmm27))))
        exact zw_some ⟨hIm33, hFm33, trivial, ⟨by omega, by omega⟩, (fun hE => zE_cp (zcc_mv hH2 (by omega) (fun c h0 h4 => (Eq.trans (zs_ne hmm33 (Or.inl (zc_ne (zc_96_e (zc_25_3 hc0) ⟨h0, h4⟩) hc0 (by decide)))) (Eq.trans (zs_ne hmm31 (Or.inl (zc_ne (zc_96_e (zc_25_3 hc0) ⟨h0, h4⟩) hc0 (by decide)))) (Eq.trans (zs_ne hmm29 (Or.inl (zc_ne (zc_96_e (zc_25_3 hc0) ⟨h0, h4⟩) hc0 (by decide)))) (zs_ne hmm27 (Or.inl (zc_ne (zc_96_e (zc_25_3 hc0) ⟨h0, h4⟩) hc0 (by decide))))))))) (by omega) (by omega) (zfr_ap hFm33 zq_50 rfl) hE)⟩
      · have b38 : 0 ≤ x2 ∧ x2 < 48 := by omega
        refine zw_if b38 ?_
        have r39 : 0 ≤ (mh (a1 + 3) x2) ∧ (mh (a1 + 3) x2) ≤ 1 := zi_rd hImh (zc_13_5 hc1) (zb_62 _)
        refine zw_b (by omega) ?_
        have b40 : 0 ≤ x2 ∧ x2 < 48 := by omega
        refine zw_if b40 ?_
        generalize hmm41 : zu_up mh (a0 + 3) x2 (mh (a1 + 3) x2) = m41
        have hIm41 := zi_up hmm41 hImh (zc_25_5 hc0) (zb_97 _) (by omega) (by omega)
        have hFm41 := zfr_up hmm41 hFmh (zc_25_5 hc0) rfl
        have b42 : 0 ≤ x2 ∧ x2 < 48 := by omega
        refine zw_if b42 ?_
        have r43 : 0 ≤ (m41 (a1 + 4) x2) ∧ (m41 (a1 + 4) x2) ≤ 999000 := zi_rd hIm41 (zc_13_6 hc1) (zb_63 _)
        have b44 : 0 ≤ x2 ∧ x2 < 48 := by omega
        refine zw_if b44 ?_
        generalize hmm45 : zu_up m41 (a0 + 4) x2 (m41 (a1 + 4) x2) = m45
        have hIm45 := zi_up hmm45 hIm41 (zc_25_6 hc0) (zb_98 _) (by omega) (by omega)
        have hFm45 := zfr_up hmm45 hFm41 (zc_25_6 hc0) rfl
        have w46 := zu_w32_id (z := x2 + 1) (by omega) (by omega)
        have r47 : 0 ≤ (m45 a0 4) ∧ (m45 a0 4) ≤ 4 := zi_rd hIm45 hc0 zb_25_4
        have e48 : (m45 a0 4) = (mh a0 4) := (Eq.trans (zs_ne hmm45 (Or.inl (zc_ne hc0 (zc_25_6 hc0) (by decide)))) (zs_ne hmm41 (Or.inl (zc_ne hc0 (zc_25_5 hc0) (by decide)))))
        have hM : (48 - (zu_w32 (x2 + 1))) * 1 + 0 < (k : Int) := by omega
        exact ih.2.2 (zu_w32 (x2 + 1)) m45 hIm45 hFm45 ⟨by omega, by omega⟩ (by omega) (by omega) (zcc_mv hH2 (by omega) (fun c h0 h4 => (Eq.trans (zs_ne hmm45 (Or.inl (zc_ne (zc_96_e (zc_25_3 hc0) ⟨h0, h4⟩) (zc_25_6 hc0) (by decide)))) (zs_ne hmm41 (Or.inl (zc_ne (zc_96_e (zc_25_3 hc0) ⟨h0, h4⟩) (zc_25_5 hc0) (by decide))))))) hM
set_option maxHeartbeats 4000000 in
theorem zk_22_25_13 (n : Nat) {a0 a1 : Int} {m0 : zu_m} (hIm0 : zi_I m0) (hc0 : zcls a0 = 25) (hc1 : zcls a1 = 13)      : zw (zu_call (zt_T n) 22 [(27, a0), (27, a1)] m0) (fun v m => zi_I m ∧ zfr [(25, 3), (25, 5), (25, 9), (25, 10), (25, 11), (25, 12), (26, 1), (26, 2), (26, 3), (26, 4), (27, 1), (27, 2), (27, 3), (27, 4), (27, 5), (27, 6), (27, 7), (27, 8), (97, 0), (98, 0)] m0 m ∧ True ∧ (0 ≤ m a0 8 ∧ m a0 8 ≤ 9999) ∧ (zE m0 a1 50 → zE m a0 50)) := by
  have hFm0 : zfr [(25, 3), (25, 5), (25, 9), (25, 10), (25, 11), (25, 12), (26, 1), (26, 2), (26, 3), (26, 4), (27, 1), (27, 2), (27, 3), (27, 4), (27, 5), (27, 6), (27, 7), (27, 8), (97, 0), (98, 0)] m0 m0 := zfr_rf _ _
  have r49 : 0 ≤ (m0 a1 4) ∧ (m0 a1 4) ≤ 4 := zi_rd hIm0 hc1 zb_13_4
  refine zw_eq (zu_call_at (zt_T n) (zm_22 n) (zdp_22 n) _ _ _ _ _ rfl (zr_22b_0 n _ _ a0 a1 m0)) ?_
  have r50 : 0 ≤ (m0 a1 2) ∧ (m0 a1 2) ≤ 16 := zi_rd hIm0 hc1 zb_13_2
  generalize hmm51 : zu_up m0 a0 2 (m0 a1 2) = m51
  have hIm51 := zi_up hmm51 hIm0 hc0 zb_25_2 (by omega) (by omega)
  have hFm51 := zfr_up hmm51 hFm0 hc0 rfl
  have hM : (16 - 0) * 1 + 54 < ((71 : Nat) : Int) := by omega
  exact (zl_22_25_13 n (m0 := m0) hc0 hc1 71).1 0 m51 hIm51 hFm51 ⟨by omega, by omega⟩ hM
set_option maxHeartbeats 4000000 in
theorem zl_22_25_16 (n : Nat) {a0 a1 : Int} {m0 : zu_m} (hc0 : zcls a0 = 25) (hc1 : zcls a1 = 16)   : ∀ k : Nat, (∀ (x2 : Int) (mh : zu_m), zi_I mh → zfr [(25, 3), (25, 5), (25, 9), (25, 10), (25, 11), (25, 12), (26, 1), (26, 2), (26, 3), (26, 4), (27, 1), (27, 2), (27, 3), (27, 4), (27, 5), (27, 6), (27, 7), (27, 8), (97, 0), (98, 0)] m0 mh → (0 ≤ x2 ∧ x2 ≤ 16) → (16 - x2) * 1 + 54 < (k : Int) → zw (zu_ex (zt_T n) 22 10 [(27, a0), (27, a1), (0, x2)] [] mh) (fun v m => zi_I m ∧ zfr [(25, 3), (25, 5), (25, 9), (25, 10), (25, 11), (25, 12), (26, 1), (26, 2), (26, 3), (26, 4), (27, 1), (27, 2), (27, 3), (27, 4), (27, 5), (27, 6), (27, 7), (27, 8), (97, 0), (98, 0)] m0 m ∧ True ∧ (0 ≤ m a0 8 ∧ m a0 8 ≤ 9999) ∧ (zE m0 a1 50 → zE m a0 50))) ∧ (∀ (x2 : Int) (mh : zu_m), zi_I mh → zfr [(25, 3), (25, 5), (25, 9), (25, 10), (25, 11), (25, 12), (26, 1), (26, 2), (26, 3), (26, 4), (27, 1), (27, 2), (27, 3), (27, 4), (27, 5), (27, 6), (27, 7), (27, 8), (97, 0), (98, 0)] m0 mh → (0 ≤ x2 ∧ x2 ≤ 4) → ((mh a0 4) = (m0 a1 4)) → (zcc m0 mh a0 a1 x2) → (4 - x2) * 1 + 49 < (k : Int) → zw (zu_ex (zt_T n) 22 49 [(27, a0), (27, a1), (0, x2)] [] mh) (fun v m => zi_I m ∧ zfr [(25, 3), (25, 5), (25, 9), (25, 10), (25, 11), (25, 12), (26, 1), (26, 2), (26, 3), (26, 4), (27, 1), (27, 2), (27, 3), (27, 4), (27, 5), (27, 6), (27, 7), (27, 8), (97, 0), (98, 0)] m0 m ∧ True ∧ (0 ≤ m a0 8 ∧ m a0 8 ≤ 9999) ∧ (zE m0 a1 50 → zE m a0 50))) ∧ (∀ (x2 : Int) (mh : zu_m), zi_I mh → zfr [(25, 3), (25, 5), (25, 9), (25, 10), (25, 11), (25, 12), (26, 1), (26, 2), (26, 3), (26, 4), (27, 1), (27, 2), (27, 3), (27, 4), (27, 5), (27, 6), (27, 7), (27, 8), (97, 0), (98, 0)] m0 mh → (0 ≤ x2 ∧ x2 ≤ 48) → ((mh a0 4) = (m0 a1 4)) → ((m0 a1 4) ≤ 4) → (zcc m0 mh a0 a1 (m0 a1 4)) → (48 - x2) * 1 + 0 < (k : Int) → zw (zu_ex (zt_T n) 22 80 [(27, a0), (27, a1), (0, x2)] [] mh) (fun v m => zi_I m ∧ zfr [(25, 3), (25, 5), (25, 9), (25, 10), (25, 11), (25, 12), (26, 1), (26, 2), (26, 3), (26, 4), (27, 1), (27, 2), (27, 3), (27, 4), (27, 5), (27, 6), (27, 7), (27, 8), (97, 0), (98, 0)] m0 m ∧ True ∧ (0 ≤ m a0 8 ∧ m a0 8 ≤ 9999) ∧ (zE m0 a1 50 → zE m a0 50))) := by
  intro k
  induction k with
  | zero => exact ⟨fun x2 mh hImh hFmh hbx2 hM => by exfalso; omega, fun x2 mh hImh hFmh hbx2 hH0 hH1 hM => by exfalso; omega, fun x2 mh hImh hFmh hbx2 hH0 hH1 hH2 hM => by exfalso; omega⟩
  | succ k ih =>
    refine ⟨?_, ?_, ?_⟩
    · intro x2 mh hImh hFmh hbx2 hM
      refine zw_eq (zu_rega_at (zt_T n) (zm_22 n) (zdp_22 n) _ _ _ _ _ _ (zr_22b_10 n _ _ a0 a1 x2 mh)) ?_
      have r1 : 0 ≤ (mh a0 2) ∧ (mh a0 2) ≤ 16 := zi_rd hImh hc0 zb_25_2
      refine zw_ite (fun h2 => ?_) (fun h2 => ?_)
      · have r3 : 0 ≤ (mh a1 4) ∧ (mh a1 4) ≤ 4 := zi_rd hImh hc1 zb_16_4
        have s4 : (mh a1 4) = m0 a1 4 := zfr_ap hFmh hc1 rfl
        generalize hmm5 : zu_up mh a0 4 (mh a1 4) = m5
        have hIm5 := zi_up hmm5 hImh hc0 zb_25_4 (by omega) (by omega)
        have hFm5 := zfr_up hmm5 hFmh hc0 rfl
        have r6 : 0 ≤ (m5 a0 4) ∧ (m5 a0 4) ≤ 4 := zi_rd hIm5 hc0 zb_25_4
        have e7 : (m5 a0 4) = (mh a1 4) := (zs_eq hmm5)
        have hM : (4 - 0) * 1 + 49 < (k : Int) := by omega
        exact ih.2.1 0 m5 hIm5 hFm5 ⟨by omega, by omega⟩ (by omega) (zcc_0 _ _ _ _) hM
      · have b8 : 0 ≤ x2 ∧ x2 < 16 := by omega
        refine zw_if b8 ?_
        have b9 : 0 ≤ x2 ∧ x2 < 16 := by omega
        refine zw_if b9 ?_
        refine zw_bd (zw_mono (zk_197_26_17 n hImh (zc_95_e (zc_25_1 hc0) b8) (zc_65_e (zc_16_1 hc1) b9)) (fun v11 m10 hqm10 => ?_))
        obtain ⟨hIm10, hfm10, hvm10⟩ := hqm10
        have hFm10 := zfr_tr hFmh hfm10 rfl
        have w12 := zu_w32_id (z := x2 + 1) (by omega) (by omega)
        have hM : (16 - (zu_w32 (x2 + 1))) * 1 + 54 < (k : Int) := by omega
        exact ih.1 (zu_w32 (x2 + 1)) m10 hIm10 hFm10 ⟨by omega, by omega⟩ hM
    · intro x2 mh hImh hFmh hbx2 hH0 hH1 hM
      refine zw_eq (zu_rega_at (zt_T n) (zm_22 n) (zdp_22 n) _ _ _ _ _ _ (zr_22b_49 n _ _ a0 a1 x2 mh)) ?_
      have r13 : 0 ≤ (mh a0 4) ∧ (mh a0 4) ≤ 4 := zi_rd hImh hc0 zb_25_4
      refine zw_ite (fun h14 => ?_) (fun h14 => ?_)
      · have hM : (48 - 0) * 1 + 0 < (k : Int) := by omega
        exact ih.2.2 0 mh hImh hFmh ⟨by omega, by omega⟩ (by omega) (by omega) (zcc_x hH1 (by omega)) hM
      · have b15 : 0 ≤ x2 ∧ x2 < 4 := by omega
        refine zw_if b15 ?_
        have b16 : 0 ≤ x2 ∧ x2 < 4 := by omega
        refine zw_if b16 ?_
        have r19 : 0 ≤ (mh ((a1 + 2) + 20 + x2) 1) ∧ (mh ((a1 + 2) + 20 + x2) 1) ≤ 47 := zi_rd hImh (zc_66_e (zc_16_3 hc1) b16) zb_18_1
        refine zw_bd (zw_mono (zk_196_27_18 n hImh (zc_96_e (zc_25_3 hc0) b15) (zc_66_e (zc_16_3 hc1) b16)) (fun v18 m17 hqm17 => ?_))
        obtain ⟨hIm17, hfm17, hvm17⟩ := hqm17
        have hFm17 := zfr_tr hFmh hfm17 rfl
        have r20 : 0 ≤ (m17 ((a0 + 2) + 20 + x2) 1) ∧ (m17 ((a0 + 2) + 20 + x2) 1) ≤ 47 := zi_rd hIm17 (zc_96_e (zc_25_3 hc0) b15) zb_27_1
        have hcam17 : m17 ((a0 + 2) + 20 + x2) 1 = mh ((a1 + 2) + 20 + x2) 1 := (hvm17.2.1)
        have hcbm17 : mh ((a1 + 2) + 20 + x2) 1 = m0 ((a1 + 2) + 20 + x2) 1 := zfr_ap hFmh (zc_66_e (zc_16_3 hc1) b16) rfl
        have hccm17 := (hvm17.2.2)
        have w21 := zu_w32_id (z := x2 + 1) (by omega) (by omega)
        have r22 : 0 ≤ (m17 a0 4) ∧ (m17 a0 4) ≤ 4 := zi_rd hIm17 hc0 zb_25_4
        have e23 : (m17 a0 4) = (mh a0 4) := (zfr_ap hfm17 hc0 rfl)
        have hM : (4 - (zu_w32 (x2 + 1))) * 1 + 49 < (k : Int) := by omega
        exact ih.2.1 (zu_w32 (x2 + 1)) m17 hIm17 hFm17 ⟨by omega, by omega⟩ (by omega) (zcc_s hH1 hcam17 hcbm17 hccm17 (by omega) (by omega) (by omega)) hM
    · intro x2 mh hImh hFmh hbx2 hH0 hH1 hH2 hM
      refine zw_eq (zu_rega_at (zt_T n) (zm_22 n) (zdp_22 n) _ _ _ _ _ _ (zr_22b_80 n _ _ a0 a1 x2 mh)) ?_
      have r24 : 0 ≤ (mh a0 4) ∧ (mh a0 4) ≤ 4 := zi_rd hImh hc0 zb_25_4
      refine zw_ite (fun h25 => ?_) (fun h25 => ?_)
      · have r26 : 0 ≤ (mh a1 8) ∧ (mh a1 8) ≤ 9999 := zi_rd hImh hc1 zb_16_8
        generalize hmm27 : zu_up mh a0 8 (mh a1 8) = m27
        have hIm27 := zi_up hmm27 hImh hc0 zb_25_8 (by omega) (by omega)
        have hFm27 := zfr_up hmm27 hFmh hc0 rfl
        have r28 : (-2147483648) ≤ (m27 a1 9) ∧ (m27 a1 9) ≤ 2147483647 := zi_rd hIm27 hc1 zb_16_9
        generalize hmm29 : zu_up m27 a0 9 (m27 a1 9) = m29
        have hIm29 := zi_up hmm29 hIm27 hc0 zb_25_9 (by omega) (by omega)
        have hFm29 := zfr_up hmm29 hFm27 hc0 rfl
        have r30 : 0 ≤ (m29 a1 10) ∧ (m29 a1 10) ≤ 3 := zi_rd hIm29 hc1 zb_16_10
        generalize hmm31 : zu_up m29 a0 10 (m29 a1 10) = m31
        have hIm31 := zi_up hmm31 hIm29 hc0 zb_25_10 (by omega) (by omega)
        have hFm31 := zfr_up hmm31 hFm29 hc0 rfl
        have r32 : (-2147483648) ≤ (m31 a1 11) ∧ (m31 a1 11) ≤ 2147483647 := zi_rd hIm31 hc1 zb_16_11
        generalize hmm33 : zu_up m31 a0 11 (m31 a1 11) = m33
        have hIm33 := zi_up hmm33 hIm31 hc0 zb_25_11 (by omega) (by omega)
        have hFm33 := zfr_up hmm33 hFm31 hc0 rfl
        have r34 : 0 ≤ (m33 a0 4) ∧ (m33 a0 4) ≤ 4 := zi_rd hIm33 hc0 zb_25_4
        have e35 : (m33 a0 4) = (mh a0 4) := (Eq.trans (zs_ne hmm33 (Or.inr (by decide))) (Eq.trans (zs_ne hmm31 (Or.inr (by decide))) (Eq.trans (zs_ne hmm29 (Or.inr (by decide))) (zs_ne hmm27 (Or.inr (by decide))))))
        have r36 : 0 ≤ (m33 a0 8) ∧ (m33 a0 8) ≤ 20000 := zi_rd hIm33 hc0 zb_25_8
        have e37 : (m33 a0 8) = (mh a1 8) := (Eq.trans (zs_ne hmm33 (Or.inr (by decide))) (Eq.trans (zs_ne hmm31 (Or.inr (by decide))) (Eq.trans (zs_ne hmm29 (Or.inr (by decide))) (zs_eq hmm27))))
        exact zw_some ⟨hIm33, hFm33, trivial, ⟨by omega, by omega⟩, (fun hE => zE_cp (zcc_mv hH2 (by omega) (fun c h0 h4 => (Eq.trans (zs_ne hmm33 (Or.inl (zc_ne (zc_96_e (zc_25_3 hc0) ⟨h0, h4⟩) hc0 (by decide)))) (Eq.trans (zs_ne hmm31 (Or.inl (zc_ne (zc_96_e (zc_25_3 hc0) ⟨h0, h4⟩) hc0 (by decide)))) (Eq.trans (zs_ne hmm29 (Or.inl (zc_ne (zc_96_e (zc_25_3 hc0) ⟨h0, h4⟩) hc0 (by decide)))) (zs_ne hmm27 (Or.inl (zc_ne (zc_96_e (zc_25_3 hc0) ⟨h0, h4⟩) hc0 (by decide))))))))) (by omega) (by omega) (zfr_ap hFm33 zq_50 rfl) hE)⟩
      · have b38 : 0 ≤ x2 ∧ x2 < 48 := by omega
        refine zw_if b38 ?_
        have r39 : 0 ≤ (mh (a1 + 3) x2) ∧ (mh (a1 + 3) x2) ≤ 1 := zi_rd hImh (zc_16_5 hc1) (zb_67 _)
        refine zw_b (by omega) ?_
        have b40 : 0 ≤ x2 ∧ x2 < 48 := by omega
        refine zw_if b40 ?_
        generalize hmm41 : zu_up mh (a0 + 3) x2 (mh (a1 + 3) x2) = m41
        have hIm41 := zi_up hmm41 hImh (zc_25_5 hc0) (zb_97 _) (by omega) (by omega)
        have hFm41 := zfr_up hmm41 hFmh (zc_25_5 hc0) rfl
        have b42 : 0 ≤ x2 ∧ x2 < 48 := by omega
        refine zw_if b42 ?_
        have r43 : 0 ≤ (m41 (a1 + 4) x2) ∧ (m41 (a1 + 4) x2) ≤ 999000 := zi_rd hIm41 (zc_16_6 hc1) (zb_68 _)
        have b44 : 0 ≤ x2 ∧ x2 < 48 := by omega
        refine zw_if b44 ?_
        generalize hmm45 : zu_up m41 (a0 + 4) x2 (m41 (a1 + 4) x2) = m45
        have hIm45 := zi_up hmm45 hIm41 (zc_25_6 hc0) (zb_98 _) (by omega) (by omega)
        have hFm45 := zfr_up hmm45 hFm41 (zc_25_6 hc0) rfl
        have w46 := zu_w32_id (z := x2 + 1) (by omega) (by omega)
        have r47 : 0 ≤ (m45 a0 4) ∧ (m45 a0 4) ≤ 4 := zi_rd hIm45 hc0 zb_25_4
        have e48 : (m45 a0 4) = (mh a0 4) := (Eq.trans (zs_ne hmm45 (Or.inl (zc_ne hc0 (zc_25_6 hc0) (by decide)))) (zs_ne hmm41 (Or.inl (zc_ne hc0 (zc_25_5 hc0) (by decide)))))
        have hM : (48 - (zu_w32 (x2 + 1))) * 1 + 0 < (k : Int) := by omega
        exact ih.2.2 (zu_w32 (x2 + 1)) m45 hIm45 hFm45 ⟨by omega, by omega⟩ (by omega) (by omega) (zcc_mv hH2 (by omega) (fun c h0 h4 => (Eq.trans (zs_ne hmm45 (Or.inl (zc_ne (zc_96_e (zc_25_3 hc0) ⟨h0, h4⟩) (zc_25_6 hc0) (by decide)))) (zs_ne hmm41 (Or.inl (zc_ne (zc_96_e (zc_25_3 hc0) ⟨h0, h4⟩) (zc_25_5 hc0) (by decide))))))) hM
set_option maxHeartbeats 4000000 in
theorem zk_22_25_16 (n : Nat) {a0 a1 : Int} {m0 : zu_m} (hIm0 : zi_I m0) (hc0 : zcls a0 = 25) (hc1 : zcls a1 = 16)      : zw (zu_call (zt_T n) 22 [(27, a0), (27, a1)] m0) (fun v m => zi_I m ∧ zfr [(25, 3), (25, 5), (25, 9), (25, 10), (25, 11), (25, 12), (26, 1), (26, 2), (26, 3), (26, 4), (27, 1), (27, 2), (27, 3), (27, 4), (27, 5), (27, 6), (27, 7), (27, 8), (97, 0), (98, 0)] m0 m ∧ True ∧ (0 ≤ m a0 8 ∧ m a0 8 ≤ 9999) ∧ (zE m0 a1 50 → zE m a0 50)) := by
  have hFm0 : zfr [(25, 3), (25, 5), (25, 9), (25, 10), (25, 11), (25, 12), (26, 1), (26, 2), (26, 3), (26, 4), (27, 1), (27, 2), (27, 3), (27, 4), (27, 5), (27, 6), (27, 7), (27, 8), (97, 0), (98, 0)] m0 m0 := zfr_rf _ _
  have r49 : 0 ≤ (m0 a1 4) ∧ (m0 a1 4) ≤ 4 := zi_rd hIm0 hc1 zb_16_4
  refine zw_eq (zu_call_at (zt_T n) (zm_22 n) (zdp_22 n) _ _ _ _ _ rfl (zr_22b_0 n _ _ a0 a1 m0)) ?_
  have r50 : 0 ≤ (m0 a1 2) ∧ (m0 a1 2) ≤ 16 := zi_rd hIm0 hc1 zb_16_2
  generalize hmm51 : zu_up m0 a0 2 (m0 a1 2) = m51
  have hIm51 := zi_up hmm51 hIm0 hc0 zb_25_2 (by omega) (by omega)
  have hFm51 := zfr_up hmm51 hFm0 hc0 rfl
  have hM : (16 - 0) * 1 + 54 < ((71 : Nat) : Int) := by omega
  exact (zl_22_25_16 n (m0 := m0) hc0 hc1 71).1 0 m51 hIm51 hFm51 ⟨by omega, by omega⟩ hM
set_option maxHeartbeats 4000000 in
theorem zl_26 (n : Nat) {a0 a1 a2 : Int} {m0 : zu_m} (hc0 : zcls a0 = 12) (hc2 : zcls a2 = 59)   : ∀ k : Nat, (∀ (x3 x4 : Int) (mh : zu_m), zi_I mh → zfr [(56, 0)] m0 mh → (0 ≤ a1 ∧ a1 ≤ 3) → (0 ≤ x3 ∧ x3 ≤ 64) → (0 ≤ x4 ∧ x4 ≤ 64) → (x3 ≤ x4 - (m0 (a0 + 3) a1)) → (0 ≤ (m0 (a0 + 3) a1)) → (zR_K54 mh) → (64 - x4) * 3 + 2 < (k : Int) → zw (zu_ex (zt_T n) 26 23 [(10, a0), (0, a1), (15, a2), (0, x3), (0, x4), (2, 0), (2, 0)] [] mh) (fun v m => zi_I m ∧ zfr [(56, 0)] m0 m ∧ zR_K54 m ∧ ((-9223372036854775808) ≤ v ∧ v ≤ 9223372036854775807))) ∧ (∀ (x3 x4 y0 : Int) (mh : zu_m), zi_I mh → zfr [(56, 0)] m0 mh → (0 ≤ a1 ∧ a1 ≤ 3) → (1 ≤ x3 ∧ x3 ≤ 63) → (0 ≤ x4 ∧ x4 ≤ 63) → ((-9223372036854775808) ≤ y0 ∧ y0 ≤ 9223372036854775807) → (x3 ≤ x4 - (m0 (a0 + 3) a1)) → (0 ≤ (m0 (a0 + 3) a1)) → (zR_K54 mh) → (64 - x4) * 3 + 1 < (k : Int) → zw (zu_ex (zt_T n) 26 240 [(10, a0), (0, a1), (15, a2), (0, x3), (0, x4), (2, 0), (2, 0)] [(1, y0)] mh) (fun v m => zi_I m ∧ zfr [(56, 0)] m0 m ∧ zR_K54 m ∧ ((-9223372036854775808) ≤ v ∧ v ≤ 9223372036854775807))) ∧ (∀ (x3 x4 : Int) (mh : zu_m), zi_I mh → zfr [(56, 0)] m0 mh → (0 ≤ a1 ∧ a1 ≤ 3) → (1 ≤ x3 ∧ x3 ≤ 64) → (0 ≤ x4 ∧ x4 ≤ 63) → (x3 ≤ x4 - (m0 (a0 + 3) a1) + 1) → (0 ≤ (m0 (a0 + 3) a1)) → (zR_K54 mh) → (64 - x4) * 3 + 0 < (k : Int) → zw (zu_ex (zt_T n) 26 274 [(10, a0), (0, a1), (15, a2), (0, x3), (0, x4), (2, 0), (2, 0)] [] mh) (fun v m => zi_I m ∧ zfr [(56, 0)] m0 m ∧ zR_K54 m ∧ ((-9223372036854775808) ≤ v ∧ v ≤ 9223372036854775807))) := by
  intro k
  induction k with
  | zero => exact ⟨fun x3 x4 mh hImh hFmh hba1 hbx3 hbx4 hH0 hH1 hRK54mh hM => by exfalso; omega, fun x3 x4 y0 mh hImh hFmh hba1 hbx3 hbx4 hby0 hH0 hH1 hRK54mh hM => by exfalso; omega, fun x3 x4 mh hImh hFmh hba1 hbx3 hbx4 hH0 hH1 hRK54mh hM => by exfalso; omega⟩
  | succ k ih =>
    refine ⟨?_, ?_, ?_⟩
    · intro x3 x4 mh hImh hFmh hba1 hbx3 hbx4 hH0 hH1 hRK54mh hM
      refine zw_eq (zu_rega_at (zt_T n) (zm_26 n) (zdp_26 n) _ _ _ _ _ _ (zr_26_23 n _ _ a0 a1 a2 x3 x4 mh)) ?_
      have b1 : 0 ≤ a1 ∧ a1 < 4 := by omega
      refine zw_if b1 ?_
      have r2 : (-1) ≤ (mh (a0 + 4) a1) ∧ (mh (a0 + 4) a1) ≤ 64 := zi_rd hImh (zc_12_3 hc0) (zb_55 _)
      refine zw_ite (fun h3 => ?_) (fun h3 => ?_)
      · refine zw_ite (fun h4 => ?_) (fun h4 => ?_)
        · exact zw_some ⟨hImh, hFmh, hRK54mh, ⟨by omega, by omega⟩⟩
        · have b5 : 0 ≤ (0 : Int) ∧ (0 : Int) < 64 := by omega
          refine zw_if b5 ?_
          have r6 : (-9223372036854775808) ≤ (mh (a0 + 5) 0) ∧ (mh (a0 + 5) 0) ≤ 9223372036854775807 := zi_rd hImh (zc_12_4 hc0) (zb_56 _)
          exact zw_some ⟨hImh, hFmh, hRK54mh, ⟨by omega, by omega⟩⟩
      · refine zw_ite (fun h7 => ?_) (fun h7 => ?_)
        · exfalso; omega
        · have b8 : 0 ≤ x4 ∧ x4 < 64 := by omega
          refine zw_if b8 ?_
          have r9 : 0 ≤ (mh (a0 + 1) x4) ∧ (mh (a0 + 1) x4) ≤ 17 := zi_rd hImh (zc_12_0 hc0) (zb_52 _)
          refine zw_ite (fun h10 => ?_) (fun h10 => ?_)
          · have b11 : 0 ≤ x4 ∧ x4 < 64 := by omega
            refine zw_if b11 ?_
            refine zw_ite (fun h12 => ?_) (fun h12 => ?_)
            · have b13 : 0 ≤ x4 ∧ x4 < 64 := by omega
              refine zw_if b13 ?_
              refine zw_ite (fun h14 => ?_) (fun h14 => ?_)
              · refine zw_ite (fun h15 => ?_) (fun h15 => ?_)
                · have w16 := zu_w32_id (z := x3 + (-1)) (by omega) (by omega)
                  have b17 : 0 ≤ x4 ∧ x4 < 64 := by omega
                  refine zw_if b17 ?_
                  refine zw_ite (fun h18 => ?_) (fun h18 => ?_)
                  · have b19 : 0 ≤ x4 ∧ x4 < 64 := by omega
                    refine zw_if b19 ?_
                    have w20 := zu_w32_id (z := (zu_w32 (x3 + (-1))) - 1) (by omega) (by omega)
                    have b21 : 0 ≤ (zu_w32 ((zu_w32 (x3 + (-1))) - 1)) ∧ (zu_w32 ((zu_w32 (x3 + (-1))) - 1)) < 64 := by omega
                    refine zw_if b21 ?_
                    have r22 : (-9223372036854775808) ≤ (mh (a0 + 5) (zu_w32 ((zu_w32 (x3 + (-1))) - 1))) ∧ (mh (a0 + 5) (zu_w32 ((zu_w32 (x3 + (-1))) - 1))) ≤ 9223372036854775807 := zi_rd hImh (zc_12_4 hc0) (zb_56 _)
                    have b23 : 0 ≤ (zu_w32 (x3 + (-1))) ∧ (zu_w32 (x3 + (-1))) < 64 := by omega
                    refine zw_if b23 ?_
                    have r24 : (-9223372036854775808) ≤ (mh (a0 + 5) (zu_w32 (x3 + (-1)))) ∧ (mh (a0 + 5) (zu_w32 (x3 + (-1)))) ≤ 9223372036854775807 := zi_rd hImh (zc_12_4 hc0) (zb_56 _)
                    refine zw_bd (zw_mono (zk_209 n hImh ⟨by omega, by omega⟩ ⟨by omega, by omega⟩ ⟨by omega, by omega⟩) (fun v26 m25 hqm25 => ?_))
                    obtain ⟨hIm25, hfm25, hvm25⟩ := hqm25
                    have hFm25 := zfr_tr hFmh hfm25 rfl
                    have hRK54m25 := zR_K54_fr (zdis_fr hfm25 rfl) hRK54mh
                    refine zw_ite (fun h27 => ?_) (fun h27 => ?_)
                    · have hM : (64 - x4) * 3 + 1 < (k : Int) := by omega
                      exact ih.2.1 (zu_w32 (x3 + (-1))) x4 0 m25 hIm25 hFm25 ⟨by omega, by omega⟩ ⟨by omega, by omega⟩ ⟨by omega, by omega⟩ ⟨by omega, by omega⟩ (by omega) (by omega) hRK54m25 hM
                    · have hM : (64 - x4) * 3 + 1 < (k : Int) := by omega
                      exact ih.2.1 (zu_w32 (x3 + (-1))) x4 1 m25 hIm25 hFm25 ⟨by omega, by omega⟩ ⟨by omega, by omega⟩ ⟨by omega, by omega⟩ ⟨by omega, by omega⟩ (by omega) (by omega) hRK54m25 hM
                  · have b28 : 0 ≤ x4 ∧ x4 < 64 := by omega
                    refine zw_if b28 ?_
                    have w29 := zu_w32_id (z := (zu_w32 (x3 + (-1))) - 1) (by omega) (by omega)
                    have b30 : 0 ≤ (zu_w32 ((zu_w32 (x3 + (-1))) - 1)) ∧ (zu_w32 ((zu_w32 (x3 + (-1))) - 1)) < 64 := by omega
                    refine zw_if b30 ?_
                    have r31 : (-9223372036854775808) ≤ (mh (a0 + 5) (zu_w32 ((zu_w32 (x3 + (-1))) - 1))) ∧ (mh (a0 + 5) (zu_w32 ((zu_w32 (x3 + (-1))) - 1))) ≤ 9223372036854775807 := zi_rd hImh (zc_12_4 hc0) (zb_56 _)
                    have b32 : 0 ≤ (zu_w32 (x3 + (-1))) ∧ (zu_w32 (x3 + (-1))) < 64 := by omega
                    refine zw_if b32 ?_
                    have r33 : (-9223372036854775808) ≤ (mh (a0 + 5) (zu_w32 (x3 + (-1)))) ∧ (mh (a0 + 5) (zu_w32 (x3 + (-1)))) ≤ 9223372036854775807 := zi_rd hImh (zc_12_4 hc0) (zb_56 _)
                    refine zw_bd (zw_mono (zk_208 n hImh ⟨by omega, by omega⟩ ⟨by omega, by omega⟩ ⟨by omega, by omega⟩) (fun v35 m34 hqm34 => ?_))
                    obtain ⟨hIm34, hfm34, hvm34⟩ := hqm34
                    have hFm34 := zfr_tr hFmh hfm34 rfl
                    have hRK54m34 := zR_K54_fr (zdis_fr hfm34 rfl) hRK54mh
                    have hM : (64 - x4) * 3 + 1 < (k : Int) := by omega
                    exact ih.2.1 (zu_w32 (x3 + (-1))) x4 v35 m34 hIm34 hFm34 ⟨by omega, by omega⟩ ⟨by omega, by omega⟩ ⟨by omega, by omega⟩ ⟨by omega, by omega⟩ (by omega) (by omega) hRK54m34 hM
                · exact zw_some ⟨hImh, hFmh, hRK54mh, ⟨by omega, by omega⟩⟩
              · refine zw_ite (fun h36 => ?_) (fun h36 => ?_)
                · have w37 := zu_w32_id (z := x3 - 1) (by omega) (by omega)
                  have b38 : 0 ≤ (zu_w32 (x3 - 1)) ∧ (zu_w32 (x3 - 1)) < 64 := by omega
                  refine zw_if b38 ?_
                  have r39 : (-9223372036854775808) ≤ (mh (a0 + 5) (zu_w32 (x3 - 1))) ∧ (mh (a0 + 5) (zu_w32 (x3 - 1))) ≤ 9223372036854775807 := zi_rd hImh (zc_12_4 hc0) (zb_56 _)
                  have c40 := zu_lcmp_sp (mh (a0 + 5) (zu_w32 (x3 - 1))) 0
                  refine zw_ite (fun h41 => ?_) (fun h41 => ?_)
                  · have b42 : 0 ≤ (zu_w32 (x3 - 1)) ∧ (zu_w32 (x3 - 1)) < 64 := by omega
                    refine zw_if b42 ?_
                    generalize hmm43 : zu_up mh (a0 + 5) (zu_w32 (x3 - 1)) 0 = m43
                    have hIm43 := zi_up hmm43 hImh (zc_12_4 hc0) (zb_56 _) (by omega) (by omega)
                    have hFm43 := zfr_up hmm43 hFmh (zc_12_4 hc0) rfl
                    have hRK54m43 := zR_K54_fr (zdis_fr (zfr_up hmm43 (zfr_rf [(56, 0)] _) (zc_12_4 hc0) rfl) rfl) hRK54mh
                    have hM : (64 - x4) * 3 + 0 < (k : Int) := by omega
                    exact ih.2.2 x3 x4 m43 hIm43 hFm43 ⟨by omega, by omega⟩ ⟨by omega, by omega⟩ ⟨by omega, by omega⟩ (by omega) (by omega) hRK54m43 hM
                  · have b44 : 0 ≤ (zu_w32 (x3 - 1)) ∧ (zu_w32 (x3 - 1)) < 64 := by omega
                    refine zw_if b44 ?_
                    generalize hmm45 : zu_up mh (a0 + 5) (zu_w32 (x3 - 1)) 1 = m45
                    have hIm45 := zi_up hmm45 hImh (zc_12_4 hc0) (zb_56 _) (by omega) (by omega)
                    have hFm45 := zfr_up hmm45 hFmh (zc_12_4 hc0) rfl
                    have hRK54m45 := zR_K54_fr (zdis_fr (zfr_up hmm45 (zfr_rf [(56, 0)] _) (zc_12_4 hc0) rfl) rfl) hRK54mh
                    have hM : (64 - x4) * 3 + 0 < (k : Int) := by omega
                    exact ih.2.2 x3 x4 m45 hIm45 hFm45 ⟨by omega, by omega⟩ ⟨by omega, by omega⟩ ⟨by omega, by omega⟩ (by omega) (by omega) hRK54m45 hM
                · exact zw_some ⟨hImh, hFmh, hRK54mh, ⟨by omega, by omega⟩⟩
            · have b46 : 0 ≤ x4 ∧ x4 < 64 := by omega
              refine zw_if b46 ?_
              have r47 : (-2147483648) ≤ (mh (a0 + 2) x4) ∧ (mh (a0 + 2) x4) ≤ 2147483647 := zi_rd hImh (zc_12_1 hc0) (zb_53 _)
              have s48 := hRK54mh a0 x4 hc0 (by omega) (by omega) (by omega)
              have b49 : 0 ≤ (mh (a0 + 2) x4) ∧ (mh (a0 + 2) x4) < 7 := by omega
              refine zw_if b49 ?_
              have r50 : (-2147483648) ≤ (mh a2 (mh (a0 + 2) x4)) ∧ (mh a2 (mh (a0 + 2) x4)) ≤ 2147483647 := zi_rdr (m := 7) (r0 := 0) (r1 := 6) hImh hc2 (by omega) (by decide +kernel)
              have b51 : 0 ≤ x3 ∧ x3 < 64 := by omega
              refine zw_if b51 ?_
              generalize hmm52 : zu_up mh (a0 + 5) x3 (mh a2 (mh (a0 + 2) x4)) = m52
              have hIm52 := zi_up hmm52 hImh (zc_12_4 hc0) (zb_56 _) (by omega) (by omega)
              have hFm52 := zfr_up hmm52 hFmh (zc_12_4 hc0) rfl
              have hRK54m52 := zR_K54_fr (zdis_fr (zfr_up hmm52 (zfr_rf [(56, 0)] _) (zc_12_4 hc0) rfl) rfl) hRK54mh
              have w53 := zu_w32_id (z := x3 + 1) (by omega) (by omega)
              have hM : (64 - x4) * 3 + 0 < (k : Int) := by omega
              exact ih.2.2 (zu_w32 (x3 + 1)) x4 m52 hIm52 hFm52 ⟨by omega, by omega⟩ ⟨by omega, by omega⟩ ⟨by omega, by omega⟩ (by omega) (by omega) hRK54m52 hM
          · have b54 : 0 ≤ x4 ∧ x4 < 64 := by omega
            refine zw_if b54 ?_
            have r55 : (-2147483648) ≤ (mh (a0 + 2) x4) ∧ (mh (a0 + 2) x4) ≤ 2147483647 := zi_rd hImh (zc_12_1 hc0) (zb_53 _)
            have b56 : 0 ≤ x3 ∧ x3 < 64 := by omega
            refine zw_if b56 ?_
            generalize hmm57 : zu_up mh (a0 + 5) x3 (mh (a0 + 2) x4) = m57
            have hIm57 := zi_up hmm57 hImh (zc_12_4 hc0) (zb_56 _) (by omega) (by omega)
            have hFm57 := zfr_up hmm57 hFmh (zc_12_4 hc0) rfl
            have hRK54m57 := zR_K54_fr (zdis_fr (zfr_up hmm57 (zfr_rf [(56, 0)] _) (zc_12_4 hc0) rfl) rfl) hRK54mh
            have w58 := zu_w32_id (z := x3 + 1) (by omega) (by omega)
            have hM : (64 - x4) * 3 + 0 < (k : Int) := by omega
            exact ih.2.2 (zu_w32 (x3 + 1)) x4 m57 hIm57 hFm57 ⟨by omega, by omega⟩ ⟨by omega, by omega⟩ ⟨by omega, by omega⟩ (by omega) (by omega) hRK54m57 hM
    · intro x3 x4 y0 mh hImh hFmh hba1 hbx3 hbx4 hby0 hH0 hH1 hRK54mh hM
      refine zw_eq (zu_rega_at (zt_T n) (zm_26 n) (zdp_26 n) _ _ _ _ _ _ (zr_26_240 n _ _ a0 a1 a2 x3 x4 y0 mh)) ?_
      have c59 := zu_lcmp_sp y0 1000000000000
      refine zw_ite (fun h60 => ?_) (fun h60 => ?_)
      · exact zw_some ⟨hImh, hFmh, hRK54mh, ⟨by omega, by omega⟩⟩
      · have c61 := zu_lcmp_sp y0 (-1000000000000)
        refine zw_ite (fun h62 => ?_) (fun h62 => ?_)
        · have w63 := zu_w32_id (z := x3 - 1) (by omega) (by omega)
          have b64 : 0 ≤ (zu_w32 (x3 - 1)) ∧ (zu_w32 (x3 - 1)) < 64 := by omega
          refine zw_if b64 ?_
          generalize hmm65 : zu_up mh (a0 + 5) (zu_w32 (x3 - 1)) y0 = m65
          have hIm65 := zi_up hmm65 hImh (zc_12_4 hc0) (zb_56 _) (by omega) (by omega)
          have hFm65 := zfr_up hmm65 hFmh (zc_12_4 hc0) rfl
          have hRK54m65 := zR_K54_fr (zdis_fr (zfr_up hmm65 (zfr_rf [(56, 0)] _) (zc_12_4 hc0) rfl) rfl) hRK54mh
          have hM : (64 - x4) * 3 + 0 < (k : Int) := by omega
          exact zw_le (zu_forget (zu_lr_same (zu_lr_same (zu_lr_same (zu_lr_same (zu_lr_same (zu_lr_drop (zu_lr_same zu_lr_nil)))))))) (ih.2.2 x3 x4 m65 hIm65 hFm65 ⟨by omega, by omega⟩ ⟨by omega, by omega⟩ ⟨by omega, by omega⟩ (by omega) (by omega) hRK54m65 hM)
        · exact zw_some ⟨hImh, hFmh, hRK54mh, ⟨by omega, by omega⟩⟩
    · intro x3 x4 mh hImh hFmh hba1 hbx3 hbx4 hH0 hH1 hRK54mh hM
      refine zw_eq (zu_rega_at (zt_T n) (zm_26 n) (zdp_26 n) _ _ _ _ _ _ (zr_26_274 n _ _ a0 a1 a2 x3 x4 mh)) ?_
      have w66 := zu_w32_id (z := x4 + 1) (by omega) (by omega)
      have hM : (64 - (zu_w32 (x4 + 1))) * 3 + 2 < (k : Int) := by omega
      exact ih.1 x3 (zu_w32 (x4 + 1)) mh hImh hFmh ⟨by omega, by omega⟩ ⟨by omega, by omega⟩ ⟨by omega, by omega⟩ (by omega) (by omega) hRK54mh hM
set_option maxHeartbeats 4000000 in
theorem zk_26 (n : Nat) {a0 a1 a2 : Int} {m0 : zu_m} (hIm0 : zi_I m0) (hc0 : zcls a0 = 12) (hc2 : zcls a2 = 59) (ha1 : 0 ≤ a1 ∧ a1 ≤ 3)    (hRK54m0 : zR_K54 m0) : zw (zu_call (zt_T n) 26 [(10, a0), (0, a1), (15, a2)] m0) (fun v m => zi_I m ∧ zfr [(56, 0)] m0 m ∧ zR_K54 m ∧ ((-9223372036854775808) ≤ v ∧ v ≤ 9223372036854775807)) := by
  have hFm0 : zfr [(56, 0)] m0 m0 := zfr_rf _ _
  refine zw_eq (zu_call_at (zt_T n) (zm_26 n) (zdp_26 n) _ _ _ _ _ rfl (zr_26_0 n _ _ a0 a1 a2 m0)) ?_
  have b67 : 0 ≤ a1 ∧ a1 < 4 := by omega
  refine zw_if b67 ?_
  have r68 : (-1) ≤ (m0 (a0 + 3) a1) ∧ (m0 (a0 + 3) a1) ≤ 64 := zi_rd hIm0 (zc_12_2 hc0) (zb_54 _)
  refine zw_ite (fun h69 => ?_) (fun h69 => ?_)
  · have b70 : 0 ≤ a1 ∧ a1 < 4 := by omega
    refine zw_if b70 ?_
    have hM : (64 - (m0 (a0 + 3) a1)) * 3 + 2 < ((195 : Nat) : Int) := by omega
    exact (zl_26 n (m0 := m0) hc0 hc2 195).1 0 (m0 (a0 + 3) a1) m0 hIm0 hFm0 ⟨by omega, by omega⟩ ⟨by omega, by omega⟩ ⟨by omega, by omega⟩ (by omega) (by omega) hRK54m0 hM
  · exact zw_some ⟨hIm0, hFm0, hRK54m0, ⟨by omega, by omega⟩⟩
set_option maxHeartbeats 4000000 in
theorem zk_40 (n : Nat) {a0 a1 a2 a3 a4 a5 : Int} {m0 : zu_m} (hIm0 : zi_I m0) (hc0 : zcls a0 = 2) (ha1 : (-2147483648) ≤ a1 ∧ a1 ≤ 2147483647) (ha2 : (-2147483648) ≤ a2 ∧ a2 ≤ 2147483647) (ha3 : (-2147483648) ≤ a3 ∧ a3 ≤ 2147483647) (ha4 : (-2147483648) ≤ a4 ∧ a4 ≤ 2147483647) (ha5 : (-2147483648) ≤ a5 ∧ a5 ≤ 2147483647)     : zw (zu_call (zt_T n) 40 [(5, a0), (0, a1), (0, a2), (0, a3), (0, a4), (0, a5)] m0) (fun v m => zi_I m ∧ zfr [(2, 2), (29, 0)] m0 m ∧ ((-1) ≤ v ∧ v ≤ 700) ∧ (((m0 a0 1) ≤ 680 ∧ v = (m0 a0 1) + 20 ∧ (m a0 1) = (m0 a0 1) + 20) ∨ (680 < (m0 a0 1) ∧ v = -1 ∧ (m a0 1) = (m0 a0 1)))) := by
  have hFm0 : zfr [(2, 2), (29, 0)] m0 m0 := zfr_rf _ _
  have r1 : 0 ≤ (m0 a0 1) ∧ (m0 a0 1) ≤ 700 := zi_rd hIm0 hc0 zb_2_1
  refine zw_eq (zu_call_at (zt_T n) (zm_40 n) (zdp_40 n) _ _ _ _ _ rfl (zr_40_0 n _ _ a0 a1 a2 a3 a4 a5 m0)) ?_
  refine zw_ite (fun h2 => ?_) (fun h2 => ?_)
  · refine zw_bd (zw_mono (zk_41 n hIm0 hc0 ⟨by omega, by omega⟩) (fun v4 m3 hqm3 => ?_))
    obtain ⟨hIm3, hfm3, hvm3⟩ := hqm3
    have hFm3 := zfr_tr hFm0 hfm3 rfl
    have r5 : 0 ≤ (m3 a0 1) ∧ (m3 a0 1) ≤ 700 := zi_rd hIm3 hc0 zb_2_1
    refine zw_bd (zw_mono (zk_41 n hIm3 hc0 ⟨by omega, by omega⟩) (fun v7 m6 hqm6 => ?_))
    obtain ⟨hIm6, hfm6, hvm6⟩ := hqm6
    have hFm6 := zfr_tr hFm3 hfm6 rfl
    have r8 : 0 ≤ (m6 a0 1) ∧ (m6 a0 1) ≤ 700 := zi_rd hIm6 hc0 zb_2_1
    refine zw_bd (zw_mono (zk_41 n hIm6 hc0 ⟨by omega, by omega⟩) (fun v10 m9 hqm9 => ?_))
    obtain ⟨hIm9, hfm9, hvm9⟩ := hqm9
    have hFm9 := zfr_tr hFm6 hfm9 rfl
    have r11 : 0 ≤ (m9 a0 1) ∧ (m9 a0 1) ≤ 700 := zi_rd hIm9 hc0 zb_2_1
    refine zw_bd (zw_mono (zk_41 n hIm9 hc0 ⟨by omega, by omega⟩) (fun v13 m12 hqm12 => ?_))
    obtain ⟨hIm12, hfm12, hvm12⟩ := hqm12
    have hFm12 := zfr_tr hFm9 hfm12 rfl
    have r14 : 0 ≤ (m12 a0 1) ∧ (m12 a0 1) ≤ 700 := zi_rd hIm12 hc0 zb_2_1
    refine zw_bd (zw_mono (zk_41 n hIm12 hc0 ⟨by omega, by omega⟩) (fun v16 m15 hqm15 => ?_))
    obtain ⟨hIm15, hfm15, hvm15⟩ := hqm15
    have hFm15 := zfr_tr hFm12 hfm15 rfl
    have r17 : 0 ≤ (m15 a0 1) ∧ (m15 a0 1) ≤ 700 := zi_rd hIm15 hc0 zb_2_1
    exact zw_some ⟨hIm15, hFm15, ⟨by omega, by omega⟩, by omega⟩
  · exact zw_some ⟨hIm0, hFm0, ⟨by omega, by omega⟩, by omega⟩
set_option maxHeartbeats 4000000 in
theorem zk_44 (n : Nat) {a0 a1 : Int} {m0 : zu_m} (hIm0 : zi_I m0) (hc0 : zcls a0 = 2) (ha1 : (-2147483648) ≤ a1 ∧ a1 ≤ 2147483647)     : zw (zu_call (zt_T n) 44 [(5, a0), (0, a1)] m0) (fun v m => zi_I m ∧ zfr [] m0 m ∧ ((-1) ≤ v ∧ v ≤ 3)) := by
  have hFm0 : zfr [] m0 m0 := zfr_rf _ _
  refine zw_eq (zu_call_at (zt_T n) (zm_44 n) (zdp_44 n) _ _ _ _ _ rfl (zr_44_0 n _ _ a0 a1 m0)) ?_
  refine zw_bd (zw_mono (zk_212_16 n hIm0 zq_89 ⟨by omega, by omega⟩) (fun v2 m1 hqm1 => ?_))
  obtain ⟨hIm1, hfm1, hvm1⟩ := hqm1
  have hFm1 := zfr_tr hFm0 hfm1 rfl
  exact zw_some ⟨hIm1, hFm1, ⟨by omega, by omega⟩⟩
set_option maxHeartbeats 4000000 in
theorem zk_45 (n : Nat) {a0 a1 a2 : Int} {m0 : zu_m} (hIm0 : zi_I m0) (hc0 : zcls a0 = 2) (ha1 : 0 ≤ a1 ∧ a1 ≤ 47) (ha2 : 0 ≤ a2 ∧ a2 ≤ 3)   (hxp0 : a1 < (m0 50 2))  : zw (zu_call (zt_T n) 45 [(5, a0), (0, a1), (0, a2)] m0) (fun v m => zi_I m ∧ zfr [] m0 m ∧ ((-2147483648) ≤ v ∧ v ≤ 2147483647)) := by
  have hFm0 : zfr [] m0 m0 := zfr_rf _ _
  have r1 : 1 ≤ (m0 50 2) ∧ (m0 50 2) ≤ 48 := zi_rd hIm0 zq_50 zb_11_2
  refine zw_eq (zu_call_at (zt_T n) (zm_45 n) (zdp_45 n) _ _ _ _ _ rfl (zr_45_0 n _ _ a0 a1 a2 m0)) ?_
  refine zw_bd (zw_eq (zu_call_at (zt_T n) (zm_244 n) (zdp_244 n) _ _ _ _ _ rfl (zr_244_0 n _ _ 50 a1 m0)) ?_)
  refine zw_ite (fun h2 => ?_) (fun h2 => ?_)
  · exfalso; omega
  · refine zw_ite (fun h3 => ?_) (fun h3 => ?_)
    · refine zw_b (by omega) ?_
      refine zw_some ?_
      refine zw_ite (fun h4 => ?_) (fun h4 => ?_)
      · exfalso; omega
      · exfalso; omega
    · refine zw_b (by omega) ?_
      refine zw_some ?_
      refine zw_ite (fun h5 => ?_) (fun h5 => ?_)
      · refine zw_ite (fun h6 => ?_) (fun h6 => ?_)
        · have b7 : 0 ≤ a1 ∧ a1 < 48 := by omega
          refine zw_if b7 ?_
          have r8 : 0 ≤ (m0 (50 + 3) a1) ∧ (m0 (50 + 3) a1) ≤ 3 := zi_rd hIm0 (zc_11_8 zq_50) (zb_51 _)
          exact zw_some ⟨hIm0, hFm0, ⟨by omega, by omega⟩⟩
        · refine zw_ite (fun h9 => ?_) (fun h9 => ?_)
          · refine zw_bd (zw_mono (zk_231 n hIm0 zq_89 ⟨by omega, by omega⟩) (fun v11 m10 hqm10 => ?_))
            obtain ⟨hIm10, hfm10, hvm10⟩ := hqm10
            have hFm10 := zfr_tr hFm0 hfm10 rfl
            exact zw_some ⟨hIm10, hFm10, ⟨by omega, by omega⟩⟩
          · refine zw_ite (fun h12 => ?_) (fun h12 => ?_)
            · have b13 : 0 ≤ a1 ∧ a1 < 48 := by omega
              refine zw_if b13 ?_
              have r14 : 0 ≤ (m0 (89 + 3) a1) ∧ (m0 (89 + 3) a1) ≤ 1 := zi_rd hIm0 (zc_16_5 zq_89) (zb_67 _)
              refine zw_ite (fun h15 => ?_) (fun h15 => ?_)
              · exact zw_some ⟨hIm0, hFm0, ⟨by omega, by omega⟩⟩
              · exact zw_some ⟨hIm0, hFm0, ⟨by omega, by omega⟩⟩
            · refine zw_ite (fun h16 => ?_) (fun h16 => ?_)
              · refine zw_bd (zw_mono (zk_232 n hIm0 zq_89 ⟨by omega, by omega⟩) (fun v18 m17 hqm17 => ?_))
                obtain ⟨hIm17, hfm17, hvm17⟩ := hqm17
                have hFm17 := zfr_tr hFm0 hfm17 rfl
                exact zw_some ⟨hIm17, hFm17, ⟨by omega, by omega⟩⟩
              · exfalso; omega
      · exfalso; omega

set_option maxHeartbeats 4000000 in
theorem zl_118 (n : Nat) {a0 : Int} {m0 : zu_m} (hc0 : zcls a0 = 28)  (hxp0 : (m0 a0 21) = (m0 a0 48)) : ∀ k : Nat, (∀ (mh : zu_m), zi_I mh → zfr [(28, 5), (28, 6), (28, 8), (28, 9), (28, 10), (28, 11), (28, 22), (28, 46), (28, 47), (28, 48), (28, 49), (28, 50), (28, 51), (117, 0), (118, 0), (119, 0), (120, 0), (121, 0)] m0 mh → ((m0 a0 7) ≤ (mh a0 7)) → ((mh a0 21) + znz mh = (mh a0 48)) → ((mh a0 46) + (mh a0 49) = zbi mh + 1) → ((mh a0 45) = znz mh + (mh a0 47)) → ((mh a0 49) = 0 → 1 ≤ (mh a0 21)) → (zR_KN mh) → (zR_NS mh) → (zR_TR mh) → (zR_WD mh) → (7 * (700 - (mh a0 7)) + (mh a0 8)) * 1 + 0 < (k : Int) → zw (zu_ex (zt_T n) 118 25 [(40, a0)] [] mh) (fun v m => zi_I m ∧ zfr [(28, 5), (28, 6), (28, 8), (28, 9), (28, 10), (28, 11), (28, 22), (28, 46), (28, 47), (28, 48), (28, 49), (28, 50), (28, 51), (117, 0), (118, 0), (119, 0), (120, 0), (121, 0)] m0 m ∧ zR_KN m ∧ zR_NS m ∧ zR_TR m ∧ zR_WD m ∧ (0 ≤ v ∧ v ≤ 1) ∧ ((m0 a0 7) ≤ (m a0 7)) ∧ (v = 1 → ((m a0 21) = (m a0 48) ∧ 1 ≤ (m a0 21))))) := by
  intro k
  induction k with
  | zero => exact fun mh hImh hFmh hH0 hH1 hH2 hH3 hH4 hRKNmh hRNSmh hRTRmh hRWDmh hM => by exfalso; omega
  | succ k ih =>
    intro mh hImh hFmh hH0 hH1 hH2 hH3 hH4 hRKNmh hRNSmh hRTRmh hRWDmh hM
    refine zw_eq (zu_rega_at (zt_T n) (zm_118 n) (zdp_118 n) _ _ _ _ _ _ (zr_118_25 n _ _ a0 mh)) ?_
    have r1 : 0 ≤ (mh a0 7) ∧ (mh a0 7) ≤ 700 := zi_rd hImh hc0 zb_28_7
    have r2 : 0 ≤ (mh a0 21) ∧ (mh a0 21) ≤ 64 := zi_rd hImh hc0 zb_28_21
    have r3 : 0 ≤ (mh a0 48) ∧ (mh a0 48) ≤ 64 := zi_rd hImh hc0 zb_28_48
    have r4 : 0 ≤ (mh a0 46) ∧ (mh a0 46) ≤ 96 := zi_rd hImh hc0 zb_28_46
    have r5 : 0 ≤ (mh a0 49) ∧ (mh a0 49) ≤ 1 := zi_rd hImh hc0 zb_28_49
    have r6 : 0 ≤ (mh a0 45) ∧ (mh a0 45) ≤ 96 := zi_rd hImh hc0 zb_28_45
    have r7 : 0 ≤ (mh a0 47) ∧ (mh a0 47) ≤ 8 := zi_rd hImh hc0 zb_28_47
    have r8 : 0 ≤ (mh a0 8) ∧ (mh a0 8) ≤ 6 := zi_rd hImh hc0 zb_28_8
    have g9 := zwt_bd hImh hc0
    have s10 := hRNSmh a0 hc0
    have s11 := hRTRmh a0 hc0
    refine zw_bd (zw_eq (zu_call_at (zt_T n) (zm_93 n) (zdp_93 n) _ _ _ _ _ rfl (zr_93_0 n _ _ a0 59 mh)) ?_)
    refine zw_ite (fun h12 => ?_) (fun h12 => ?_)
    · refine zw_b (by omega) ?_
      refine zw_some ?_
      refine zw_ite (fun h13 => ?_) (fun h13 => ?_)
      · refine zw_ite (fun h14 => ?_) (fun h14 => ?_)
        · refine zw_bd (zw_mono (zk_117 n hImh hc0 ⟨by omega, by omega⟩ (by omega) (by omega) (by omega) (by omega) (by omega) hRKNmh hRNSmh hRTRmh hRWDmh) (fun v16 m15 hqm15 => ?_))
          obtain ⟨hIm15, hfm15, hvm15⟩ := hqm15
          have hFm15 := zfr_tr hFmh hfm15 rfl
          obtain ⟨hRKNm15, hRNSm15, hRTRm15, hRWDm15, hvm15⟩ := hvm15
          have g17 := zwt_bd hIm15 hc0
          have s18 := hRNSm15 a0 hc0
          have s19 := hRTRm15 a0 hc0
          refine zw_ite (fun h20 => ?_) (fun h20 => ?_)
          · have r21 : 0 ≤ (m15 a0 7) ∧ (m15 a0 7) ≤ 700 := zi_rd hIm15 hc0 zb_28_7
            have r22 : 0 ≤ (m15 a0 21) ∧ (m15 a0 21) ≤ 64 := zi_rd hIm15 hc0 zb_28_21
            have r23 : 0 ≤ (m15 a0 48) ∧ (m15 a0 48) ≤ 64 := zi_rd hIm15 hc0 zb_28_48
            have r24 : 0 ≤ (m15 a0 46) ∧ (m15 a0 46) ≤ 96 := zi_rd hIm15 hc0 zb_28_46
            have r25 : 0 ≤ (m15 a0 49) ∧ (m15 a0 49) ≤ 1 := zi_rd hIm15 hc0 zb_28_49
            have r26 : 0 ≤ (m15 a0 45) ∧ (m15 a0 45) ≤ 96 := zi_rd hIm15 hc0 zb_28_45
            have r27 : 0 ≤ (m15 a0 47) ∧ (m15 a0 47) ≤ 8 := zi_rd hIm15 hc0 zb_28_47
            have r28 : 0 ≤ (m15 a0 8) ∧ (m15 a0 8) ≤ 6 := zi_rd hIm15 hc0 zb_28_8
            have hM : (7 * (700 - (m15 a0 7)) + (m15 a0 8)) * 1 + 0 < (k : Int) := by omega
            exact ih  m15 hIm15 hFm15 (by omega) (by omega) (by omega) (by omega) (by omega) hRKNm15 hRNSm15 hRTRm15 hRWDm15 hM
          · refine zw_b (by omega) ?_
            have r29 : 0 ≤ (m15 a0 7) ∧ (m15 a0 7) ≤ 700 := zi_rd hIm15 hc0 zb_28_7
            have r30 : 0 ≤ (m15 a0 21) ∧ (m15 a0 21) ≤ 64 := zi_rd hIm15 hc0 zb_28_21
            have r31 : 0 ≤ (m15 a0 48) ∧ (m15 a0 48) ≤ 64 := zi_rd hIm15 hc0 zb_28_48
            exact zw_some ⟨hIm15, hFm15, hRKNm15, hRNSm15, hRTRm15, hRWDm15, ⟨by omega, by omega⟩, by omega, by omega⟩
        · refine zw_bd (zw_mono (zk_116 n hImh hc0 ⟨by omega, by omega⟩ (by omega) (by omega) (by omega) (by omega) hRKNmh hRNSmh hRTRmh hRWDmh) (fun v33 m32 hqm32 => ?_))
          obtain ⟨hIm32, hfm32, hvm32⟩ := hqm32
          have hFm32 := zfr_tr hFmh hfm32 rfl
          obtain ⟨hRKNm32, hRNSm32, hRTRm32, hRWDm32, hvm32⟩ := hvm32
          have g34 := zwt_bd hIm32 hc0
          have s35 := hRNSm32 a0 hc0
          have s36 := hRTRm32 a0 hc0
          refine zw_ite (fun h37 => ?_) (fun h37 => ?_)
          · refine zw_b (by omega) ?_
            have r38 : 0 ≤ (m32 a0 7) ∧ (m32 a0 7) ≤ 700 := zi_rd hIm32 hc0 zb_28_7
            have r39 : 0 ≤ (m32 a0 21) ∧ (m32 a0 21) ≤ 64 := zi_rd hIm32 hc0 zb_28_21
            have r40 : 0 ≤ (m32 a0 48) ∧ (m32 a0 48) ≤ 64 := zi_rd hIm32 hc0 zb_28_48
            exact zw_some ⟨hIm32, hFm32, hRKNm32, hRNSm32, hRTRm32, hRWDm32, ⟨by omega, by omega⟩, by omega, by omega⟩
          · have r41 : 0 ≤ (m32 a0 7) ∧ (m32 a0 7) ≤ 700 := zi_rd hIm32 hc0 zb_28_7
            have r42 : 0 ≤ (m32 a0 21) ∧ (m32 a0 21) ≤ 64 := zi_rd hIm32 hc0 zb_28_21
            have r43 : 0 ≤ (m32 a0 48) ∧ (m32 a0 48) ≤ 64 := zi_rd hIm32 hc0 zb_28_48
            have r44 : 0 ≤ (m32 a0 46) ∧ (m32 a0 46) ≤ 96 := zi_rd hIm32 hc0 zb_28_46
            have r45 : 0 ≤ (m32 a0 49) ∧ (m32 a0 49) ≤ 1 := zi_rd hIm32 hc0 zb_28_49
            have r46 : 0 ≤ (m32 a0 45) ∧ (m32 a0 45) ≤ 96 := zi_rd hIm32 hc0 zb_28_45
            have r47 : 0 ≤ (m32 a0 47) ∧ (m32 a0 47) ≤ 8 := zi_rd hIm32 hc0 zb_28_47
            have r48 : 0 ≤ (m32 a0 8) ∧ (m32 a0 8) ≤ 6 := zi_rd hIm32 hc0 zb_28_8
            have hM : (7 * (700 - (m32 a0 7)) + (m32 a0 8)) * 1 + 0 < (k : Int) := by omega
            exact ih  m32 hIm32 hFm32 (by omega) (by omega) (by omega) (by omega) (by omega) hRKNm32 hRNSm32 hRTRm32 hRWDm32 hM
      · exfalso; omega
    · have r49 : (-2147483648) ≤ (mh a0 9) ∧ (mh a0 9) ≤ 2147483647 := zi_rd hImh hc0 zb_28_9
      refine zw_ite (fun h50 => ?_) (fun h50 => ?_)
      · refine zw_b (by omega) ?_
        refine zw_some ?_
        refine zw_ite (fun h51 => ?_) (fun h51 => ?_)
        · refine zw_ite (fun h52 => ?_) (fun h52 => ?_)
          · refine zw_bd (zw_mono (zk_117 n hImh hc0 ⟨by omega, by omega⟩ (by omega) (by omega) (by omega) (by omega) (by omega) hRKNmh hRNSmh hRTRmh hRWDmh) (fun v54 m53 hqm53 => ?_))
            obtain ⟨hIm53, hfm53, hvm53⟩ := hqm53
            have hFm53 := zfr_tr hFmh hfm53 rfl
            obtain ⟨hRKNm53, hRNSm53, hRTRm53, hRWDm53, hvm53⟩ := hvm53
            have g55 := zwt_bd hIm53 hc0
            have s56 := hRNSm53 a0 hc0
            have s57 := hRTRm53 a0 hc0
            refine zw_ite (fun h58 => ?_) (fun h58 => ?_)
            · have r59 : 0 ≤ (m53 a0 7) ∧ (m53 a0 7) ≤ 700 := zi_rd hIm53 hc0 zb_28_7
              have r60 : 0 ≤ (m53 a0 21) ∧ (m53 a0 21) ≤ 64 := zi_rd hIm53 hc0 zb_28_21
              have r61 : 0 ≤ (m53 a0 48) ∧ (m53 a0 48) ≤ 64 := zi_rd hIm53 hc0 zb_28_48
              have r62 : 0 ≤ (m53 a0 46) ∧ (m53 a0 46) ≤ 96 := zi_rd hIm53 hc0 zb_28_46
              have r63 : 0 ≤ (m53 a0 49) ∧ (m53 a0 49) ≤ 1 := zi_rd hIm53 hc0 zb_28_49
              have r64 : 0 ≤ (m53 a0 45) ∧ (m53 a0 45) ≤ 96 := zi_rd hIm53 hc0 zb_28_45
              have r65 : 0 ≤ (m53 a0 47) ∧ (m53 a0 47) ≤ 8 := zi_rd hIm53 hc0 zb_28_47
              have r66 : 0 ≤ (m53 a0 8) ∧ (m53 a0 8) ≤ 6 := zi_rd hIm53 hc0 zb_28_8
              have hM : (7 * (700 - (m53 a0 7)) + (m53 a0 8)) * 1 + 0 < (k : Int) := by omega
              exact ih  m53 hIm53 hFm53 (by omega) (by omega) (by omega) (by omega) (by omega) hRKNm53 hRNSm53 hRTRm53 hRWDm53 hM
            · refine zw_b (by omega) ?_
              have r67 : 0 ≤ (m53 a0 7) ∧ (m53 a0 7) ≤ 700 := zi_rd hIm53 hc0 zb_28_7
              have r68 : 0 ≤ (m53 a0 21) ∧ (m53 a0 21) ≤ 64 := zi_rd hIm53 hc0 zb_28_21
              have r69 : 0 ≤ (m53 a0 48) ∧ (m53 a0 48) ≤ 64 := zi_rd hIm53 hc0 zb_28_48
              exact zw_some ⟨hIm53, hFm53, hRKNm53, hRNSm53, hRTRm53, hRWDm53, ⟨by omega, by omega⟩, by omega, by omega⟩
          · refine zw_bd (zw_mono (zk_116 n hImh hc0 ⟨by omega, by omega⟩ (by omega) (by omega) (by omega) (by omega) hRKNmh hRNSmh hRTRmh hRWDmh) (fun v71 m70 hqm70 => ?_))
            obtain ⟨hIm70, hfm70, hvm70⟩ := hqm70
            have hFm70 := zfr_tr hFmh hfm70 rfl
            obtain ⟨hRKNm70, hRNSm70, hRTRm70, hRWDm70, hvm70⟩ := hvm70
            have g72 := zwt_bd hIm70 hc0
            have s73 := hRNSm70 a0 hc0
            have s74 := hRTRm70 a0 hc0
            refine zw_ite (fun h75 => ?_) (fun h75 => ?_)
            · refine zw_b (by omega) ?_
              have r76 : 0 ≤ (m70 a0 7) ∧ (m70 a0 7) ≤ 700 := zi_rd hIm70 hc0 zb_28_7
              have r77 : 0 ≤ (m70 a0 21) ∧ (m70 a0 21) ≤ 64 := zi_rd hIm70 hc0 zb_28_21
              have r78 : 0 ≤ (m70 a0 48) ∧ (m70 a0 48) ≤ 64 := zi_rd hIm70 hc0 zb_28_48
              exact zw_some ⟨hIm70, hFm70, hRKNm70, hRNSm70, hRTRm70, hRWDm70, ⟨by omega, by omega⟩, by omega, by omega⟩
            · have r79 : 0 ≤ (m70 a0 7) ∧ (m70 a0 7) ≤ 700 := zi_rd hIm70 hc0 zb_28_7
              have r80 : 0 ≤ (m70 a0 21) ∧ (m70 a0 21) ≤ 64 := zi_rd hIm70 hc0 zb_28_21
              have r81 : 0 ≤ (m70 a0 48) ∧ (m70 a0 48) ≤ 64 := zi_rd hIm70 hc0 zb_28_48
              have r82 : 0 ≤ (m70 a0 46) ∧ (m70 a0 46) ≤ 96 := zi_rd hIm70 hc0 zb_28_46
              have r83 : 0 ≤ (m70 a0 49) ∧ (m70 a0 49) ≤ 1 := zi_rd hIm70 hc0 zb_28_49
              have r84 : 0 ≤ (m70 a0 45) ∧ (m70 a0 45) ≤ 96 := zi_rd hIm70 hc0 zb_28_45
              have r85 : 0 ≤ (m70 a0 47) ∧ (m70 a0 47) ≤ 8 := zi_rd hIm70 hc0 zb_28_47
              have r86 : 0 ≤ (m70 a0 8) ∧ (m70 a0 8) ≤ 6 := zi_rd hIm70 hc0 zb_28_8
              have hM : (7 * (700 - (m70 a0 7)) + (m70 a0 8)) * 1 + 0 < (k : Int) := by omega
              exact ih  m70 hIm70 hFm70 (by omega) (by omega) (by omega) (by omega) (by omega) hRKNm70 hRNSm70 hRTRm70 hRWDm70 hM
        · exfalso; omega
      · refine zw_b (by omega) ?_
        refine zw_some ?_
        refine zw_ite (fun h87 => ?_) (fun h87 => ?_)
        · exfalso; omega
        · refine zw_ite (fun h88 => ?_) (fun h88 => ?_)
          · refine zw_ite (fun h89 => ?_) (fun h89 => ?_)
            · exfalso; omega
            · refine zw_bd (zw_mono (zk_116 n hImh hc0 ⟨by omega, by omega⟩ (by omega) (by omega) (by omega) (by omega) hRKNmh hRNSmh hRTRmh hRWDmh) (fun v91 m90 hqm90 => ?_))
              obtain ⟨hIm90, hfm90, hvm90⟩ := hqm90
              have hFm90 := zfr_tr hFmh hfm90 rfl
              obtain ⟨hRKNm90, hRNSm90, hRTRm90, hRWDm90, hvm90⟩ := hvm90
              have g92 := zwt_bd hIm90 hc0
              have s93 := hRNSm90 a0 hc0
              have s94 := hRTRm90 a0 hc0
              refine zw_ite (fun h95 => ?_) (fun h95 => ?_)
              · refine zw_b (by omega) ?_
                have r96 : 0 ≤ (m90 a0 7) ∧ (m90 a0 7) ≤ 700 := zi_rd hIm90 hc0 zb_28_7
                have r97 : 0 ≤ (m90 a0 21) ∧ (m90 a0 21) ≤ 64 := zi_rd hIm90 hc0 zb_28_21
                have r98 : 0 ≤ (m90 a0 48) ∧ (m90 a0 48) ≤ 64 := zi_rd hIm90 hc0 zb_28_48
                exact zw_some ⟨hIm90, hFm90, hRKNm90, hRNSm90, hRTRm90, hRWDm90, ⟨by omega, by omega⟩, by omega, by omega⟩
              · have r99 : 0 ≤ (m90 a0 7) ∧ (m90 a0 7) ≤ 700 := zi_rd hIm90 hc0 zb_28_7
                have r100 : 0 ≤ (m90 a0 21) ∧ (m90 a0 21) ≤ 64 := zi_rd hIm90 hc0 zb_28_21
                have r101 : 0 ≤ (m90 a0 48) ∧ (m90 a0 48) ≤ 64 := zi_rd hIm90 hc0 zb_28_48
                have r102 : 0 ≤ (m90 a0 46) ∧ (m90 a0 46) ≤ 96 := zi_rd hIm90 hc0 zb_28_46
                have r103 : 0 ≤ (m90 a0 49) ∧ (m90 a0 49) ≤ 1 := zi_rd hIm90 hc0 zb_28_49
                have r104 : 0 ≤ (m90 a0 45) ∧ (m90 a0 45) ≤ 96 := zi_rd hIm90 hc0 zb_28_45
                have r105 : 0 ≤ (m90 a0 47) ∧ (m90 a0 47) ≤ 8 := zi_rd hIm90 hc0 zb_28_47
                have r106 : 0 ≤ (m90 a0 8) ∧ (m90 a0 8) ≤ 6 := zi_rd hIm90 hc0 zb_28_8
                have hM : (7 * (700 - (m90 a0 7)) + (m90 a0 8)) * 1 + 0 < (k : Int) := by omega
                exact ih  m90 hIm90 hFm90 (by omega) (by omega) (by omega) (by omega) (by omega) hRKNm90 hRNSm90 hRTRm90 hRWDm90 hM
          · refine zw_ite (fun h107 => ?_) (fun h107 => ?_)
            · refine zw_bd (zw_mono (zk_112 n hImh hc0 ⟨by omega, by omega⟩ (by omega) (by omega) (by omega) hRKNmh) (fun v109 m108 hqm108 => ?_))
              obtain ⟨hIm108, hfm108, hvm108⟩ := hqm108
              have hFm108 := zfr_tr hFmh hfm108 rfl
              obtain ⟨hRKNm108, hvm108⟩ := hvm108
              have hRNSm108 := zR_NS_fr (zdis_fr hfm108 rfl) hRNSmh
              have hRTRm108 := zR_TR_fr (zdis_fr hfm108 rfl) hRTRmh
              have hRWDm108 := zR_WD_fr (zdis_fr hfm108 rfl) hRWDmh
              have g110 := zwt_bd hIm108 hc0
              have s111 := hRNSm108 a0 hc0
              have s112 := hRTRm108 a0 hc0
              refine zw_b (by omega) ?_
              have r113 : 0 ≤ (m108 a0 45) ∧ (m108 a0 45) ≤ 96 := zi_rd hIm108 hc0 zb_28_45
              have g114 := zwt_top hIm108 hc0
              have r115 : 0 ≤ (m108 a0 7) ∧ (m108 a0 7) ≤ 700 := zi_rd hIm108 hc0 zb_28_7
              have e116 : (m108 a0 7) = (mh a0 7) := (zfr_ap hfm108 hc0 rfl)
              have r117 : 0 ≤ (m108 a0 21) ∧ (m108 a0 21) ≤ 64 := zi_rd hIm108 hc0 zb_28_21
              have r118 : 0 ≤ (m108 a0 48) ∧ (m108 a0 48) ≤ 64 := zi_rd hIm108 hc0 zb_28_48
              have e119 : (m108 a0 48) = (mh a0 48) := (zfr_ap hfm108 hc0 rfl)
              exact zw_some ⟨hIm108, hFm108, hRKNm108, hRNSm108, hRTRm108, hRWDm108, ⟨by omega, by omega⟩, by omega, by omega⟩
            · refine zw_ite (fun h120 => ?_) (fun h120 => ?_)
              · refine zw_bd (zw_mono (zk_117 n hImh hc0 ⟨by omega, by omega⟩ (by omega) (by omega) (by omega) (by omega) (by omega) hRKNmh hRNSmh hRTRmh hRWDmh) (fun v122 m121 hqm121 => ?_))
                obtain ⟨hIm121, hfm121, hvm121⟩ := hqm121
                have hFm121 := zfr_tr hFmh hfm121 rfl
                obtain ⟨hRKNm121, hRNSm121, hRTRm121, hRWDm121, hvm121⟩ := hvm121
                have g123 := zwt_bd hIm121 hc0
                have s124 := hRNSm121 a0 hc0
                have s125 := hRTRm121 a0 hc0
                refine zw_ite (fun h126 => ?_) (fun h126 => ?_)
                · have r127 : 0 ≤ (m121 a0 7) ∧ (m121 a0 7) ≤ 700 := zi_rd hIm121 hc0 zb_28_7
                  have r128 : 0 ≤ (m121 a0 21) ∧ (m121 a0 21) ≤ 64 := zi_rd hIm121 hc0 zb_28_21
                  have r129 : 0 ≤ (m121 a0 48) ∧ (m121 a0 48) ≤ 64 := zi_rd hIm121 hc0 zb_28_48
                  have r130 : 0 ≤ (m121 a0 46) ∧ (m121 a0 46) ≤ 96 := zi_rd hIm121 hc0 zb_28_46
                  have r131 : 0 ≤ (m121 a0 49) ∧ (m121 a0 49) ≤ 1 := zi_rd hIm121 hc0 zb_28_49
                  have r132 : 0 ≤ (m121 a0 45) ∧ (m121 a0 45) ≤ 96 := zi_rd hIm121 hc0 zb_28_45
                  have r133 : 0 ≤ (m121 a0 47) ∧ (m121 a0 47) ≤ 8 := zi_rd hIm121 hc0 zb_28_47
                  have r134 : 0 ≤ (m121 a0 8) ∧ (m121 a0 8) ≤ 6 := zi_rd hIm121 hc0 zb_28_8
                  have hM : (7 * (700 - (m121 a0 7)) + (m121 a0 8)) * 1 + 0 < (k : Int) := by omega
                  exact ih  m121 hIm121 hFm121 (by omega) (by omega) (by omega) (by omega) (by omega) hRKNm121 hRNSm121 hRTRm121 hRWDm121 hM
                · refine zw_b (by omega) ?_
                  have r135 : 0 ≤ (m121 a0 7) ∧ (m121 a0 7) ≤ 700 := zi_rd hIm121 hc0 zb_28_7
                  have r136 : 0 ≤ (m121 a0 21) ∧ (m121 a0 21) ≤ 64 := zi_rd hIm121 hc0 zb_28_21
                  have r137 : 0 ≤ (m121 a0 48) ∧ (m121 a0 48) ≤ 64 := zi_rd hIm121 hc0 zb_28_48
                  exact zw_some ⟨hIm121, hFm121, hRKNm121, hRNSm121, hRTRm121, hRWDm121, ⟨by omega, by omega⟩, by omega, by omega⟩
              · exfalso; omega
set_option maxHeartbeats 4000000 in
theorem zk_118 (n : Nat) {a0 : Int} {m0 : zu_m} (hIm0 : zi_I m0) (hc0 : zcls a0 = 28)    (hxp0 : (m0 a0 21) = (m0 a0 48)) (hRKNm0 : zR_KN m0) (hRNSm0 : zR_NS m0) (hRTRm0 : zR_TR m0) (hRWDm0 : zR_WD m0) : zw (zu_call (zt_T n) 118 [(40, a0)] m0) (fun v m => zi_I m ∧ zfr [(28, 5), (28, 6), (28, 8), (28, 9), (28, 10), (28, 11), (28, 22), (28, 46), (28, 47), (28, 48), (28, 49), (28, 50), (28, 51), (117, 0), (118, 0), (119, 0), (120, 0), (121, 0)] m0 m ∧ zR_KN m ∧ zR_NS m ∧ zR_TR m ∧ zR_WD m ∧ (0 ≤ v ∧ v ≤ 1) ∧ ((m0 a0 7) ≤ (m a0 7)) ∧ (v = 1 → ((m a0 21) = (m a0 48) ∧ 1 ≤ (m a0 21)))) := by
  have hFm0 : zfr [(28, 5), (28, 6), (28, 8), (28, 9), (28, 10), (28, 11), (28, 22), (28, 46), (28, 47), (28, 48), (28, 49), (28, 50), (28, 51), (117, 0), (118, 0), (119, 0), (120, 0), (121, 0)] m0 m0 := zfr_rf _ _
  have r138 : 0 ≤ (m0 a0 21) ∧ (m0 a0 21) ≤ 64 := zi_rd hIm0 hc0 zb_28_21
  have r139 : 0 ≤ (m0 a0 48) ∧ (m0 a0 48) ≤ 64 := zi_rd hIm0 hc0 zb_28_48
  have g140 := zwt_bd hIm0 hc0
  have s141 := hRNSm0 a0 hc0
  have s142 := hRTRm0 a0 hc0
  refine zw_eq (zu_call_at (zt_T n) (zm_118 n) (zdp_118 n) _ _ _ _ _ rfl (zr_118_0 n _ _ a0 m0)) ?_
  generalize hmm143 : zu_up m0 a0 45 0 = m143
  have hIm143 := zi_up hmm143 hIm0 hc0 zb_28_45 (by omega) (by omega)
  have hFm143 := zfr_up hmm143 hFm0 hc0 rfl
  have hRKNm143 := zR_KN_fr (zdis_fr (zfr_up hmm143 (zfr_rf [(28, 46)] _) hc0 rfl) rfl) hRKNm0
  have hRNSm143 := zR_NS_fr (zdis_fr (zfr_up hmm143 (zfr_rf [(28, 46)] _) hc0 rfl) rfl) hRNSm0
  have hRTRm143 := zR_TR_fr (zdis_fr (zfr_up hmm143 (zfr_rf [(28, 46)] _) hc0 rfl) rfl) hRTRm0
  have hRWDm143 := zR_WD_fr (zdis_fr (zfr_up hmm143 (zfr_rf [(28, 46)] _) hc0 rfl) rfl) hRWDm0
  have g144 := zwt_zero hmm143 hc0
  generalize hmm145 : zu_up m143 a0 46 0 = m145
  have hIm145 := zi_up hmm145 hIm143 hc0 zb_28_46 (by omega) (by omega)
  have hFm145 := zfr_up hmm145 hFm143 hc0 rfl
  have g146 := zwt_fr (zdis_fr (zfr_up hmm145 (zfr_rf [(28, 47)] _) hc0 rfl) rfl)
  have hRKNm145 := zR_KN_fr (zdis_fr (zfr_up hmm145 (zfr_rf [(28, 47)] _) hc0 rfl) rfl) hRKNm143
  have hRNSm145 := zR_NS_fr (zdis_fr (zfr_up hmm145 (zfr_rf [(28, 47)] _) hc0 rfl) rfl) hRNSm143
  have hRTRm145 := zR_TR_fr (zdis_fr (zfr_up hmm145 (zfr_rf [(28, 47)] _) hc0 rfl) rfl) hRTRm143
  have hRWDm145 := zR_WD_fr (zdis_fr (zfr_up hmm145 (zfr_rf [(28, 47)] _) hc0 rfl) rfl) hRWDm143
  generalize hmm147 : zu_up m145 a0 47 0 = m147
  have hIm147 := zi_up hmm147 hIm145 hc0 zb_28_47 (by omega) (by omega)
  have hFm147 := zfr_up hmm147 hFm145 hc0 rfl
  have g148 := zwt_fr (zdis_fr (zfr_up hmm147 (zfr_rf [(28, 48)] _) hc0 rfl) rfl)
  have hRKNm147 := zR_KN_fr (zdis_fr (zfr_up hmm147 (zfr_rf [(28, 48)] _) hc0 rfl) rfl) hRKNm145
  have hRNSm147 := zR_NS_fr (zdis_fr (zfr_up hmm147 (zfr_rf [(28, 48)] _) hc0 rfl) rfl) hRNSm145
  have hRTRm147 := zR_TR_fr (zdis_fr (zfr_up hmm147 (zfr_rf [(28, 48)] _) hc0 rfl) rfl) hRTRm145
  have hRWDm147 := zR_WD_fr (zdis_fr (zfr_up hmm147 (zfr_rf [(28, 48)] _) hc0 rfl) rfl) hRWDm145
  refine zw_b (by omega) ?_
  generalize hmm149 : zu_up m147 a0 49 1 = m149
  have hIm149 := zi_up hmm149 hIm147 hc0 zb_28_49 (by omega) (by omega)
  have hFm149 := zfr_up hmm149 hFm147 hc0 rfl
  have g150 := zwt_fr (zdis_fr (zfr_up hmm149 (zfr_rf [(28, 50)] _) hc0 rfl) rfl)
  have hRKNm149 := zR_KN_fr (zdis_fr (zfr_up hmm149 (zfr_rf [(28, 50)] _) hc0 rfl) rfl) hRKNm147
  have hRNSm149 := zR_NS_fr (zdis_fr (zfr_up hmm149 (zfr_rf [(28, 50)] _) hc0 rfl) rfl) hRNSm147
  have hRTRm149 := zR_TR_fr (zdis_fr (zfr_up hmm149 (zfr_rf [(28, 50)] _) hc0 rfl) rfl) hRTRm147
  have hRWDm149 := zR_WD_fr (zdis_fr (zfr_up hmm149 (zfr_rf [(28, 50)] _) hc0 rfl) rfl) hRWDm147
  refine zw_b (by omega) ?_
  generalize hmm151 : zu_up m149 a0 50 1 = m151
  have hIm151 := zi_up hmm151 hIm149 hc0 zb_28_50 (by omega) (by omega)
  have hFm151 := zfr_up hmm151 hFm149 hc0 rfl
  have g152 := zwt_fr (zdis_fr (zfr_up hmm151 (zfr_rf [(28, 51)] _) hc0 rfl) rfl)
  have hRKNm151 := zR_KN_fr (zdis_fr (zfr_up hmm151 (zfr_rf [(28, 51)] _) hc0 rfl) rfl) hRKNm149
  have hRNSm151 := zR_NS_fr (zdis_fr (zfr_up hmm151 (zfr_rf [(28, 51)] _) hc0 rfl) rfl) hRNSm149
  have hRTRm151 := zR_TR_fr (zdis_fr (zfr_up hmm151 (zfr_rf [(28, 51)] _) hc0 rfl) rfl) hRTRm149
  have hRWDm151 := zR_WD_fr (zdis_fr (zfr_up hmm151 (zfr_rf [(28, 51)] _) hc0 rfl) rfl) hRWDm149
  have r153 : 0 ≤ (m151 a0 7) ∧ (m151 a0 7) ≤ 700 := zi_rd hIm151 hc0 zb_28_7
  have r154 : 0 ≤ (m151 a0 21) ∧ (m151 a0 21) ≤ 64 := zi_rd hIm151 hc0 zb_28_21
  have e155 : (m151 a0 21) = (m0 a0 21) := (Eq.trans (zs_ne hmm151 (Or.inr (by decide))) (Eq.trans (zs_ne hmm149 (Or.inr (by decide))) (Eq.trans (zs_ne hmm147 (Or.inr (by decide))) (Eq.trans (zs_ne hmm145 (Or.inr (by decide))) (zs_ne hmm143 (Or.inr (by decide)))))))
  have r156 : 0 ≤ (m151 a0 48) ∧ (m151 a0 48) ≤ 64 := zi_rd hIm151 hc0 zb_28_48
  have e157 : (m151 a0 48) = (m0 a0 48) := (Eq.trans (zs_ne hmm151 (Or.inr (by decide))) (Eq.trans (zs_ne hmm149 (Or.inr (by decide))) (Eq.trans (zs_ne hmm147 (Or.inr (by decide))) (Eq.trans (zs_ne hmm145 (Or.inr (by decide))) (zs_ne hmm143 (Or.inr (by decide)))))))
  have r158 : 0 ≤ (m151 a0 46) ∧ (m151 a0 46) ≤ 96 := zi_rd hIm151 hc0 zb_28_46
  have e159 : (m151 a0 46) = 0 := (Eq.trans (zs_ne hmm151 (Or.inr (by decide))) (Eq.trans (zs_ne hmm149 (Or.inr (by decide))) (Eq.trans (zs_ne hmm147 (Or.inr (by decide))) (zs_eq hmm145))))
  have r160 : 0 ≤ (m151 a0 49) ∧ (m151 a0 49) ≤ 1 := zi_rd hIm151 hc0 zb_28_49
  have e161 : (m151 a0 49) = 1 := (Eq.trans (zs_ne hmm151 (Or.inr (by decide))) (zs_eq hmm149))
  have r162 : 0 ≤ (m151 a0 45) ∧ (m151 a0 45) ≤ 96 := zi_rd hIm151 hc0 zb_28_45
  have e163 : (m151 a0 45) = 0 := (Eq.trans (zs_ne hmm151 (Or.inr (by decide))) (Eq.trans (zs_ne hmm149 (Or.inr (by decide))) (Eq.trans (zs_ne hmm147 (Or.inr (by decide))) (Eq.trans (zs_ne hmm145 (Or.inr (by decide))) (zs_eq hmm143)))))
  have r164 : 0 ≤ (m151 a0 47) ∧ (m151 a0 47) ≤ 8 := zi_rd hIm151 hc0 zb_28_47
  have e165 : (m151 a0 47) = 0 := (Eq.trans (zs_ne hmm151 (Or.inr (by decide))) (Eq.trans (zs_ne hmm149 (Or.inr (by decide))) (zs_eq hmm147)))
  have r166 : 0 ≤ (m151 a0 8) ∧ (m151 a0 8) ≤ 6 := zi_rd hIm151 hc0 zb_28_8
  have hM : (7 * (700 - (m151 a0 7)) + (m151 a0 8)) * 1 + 0 < ((4907 : Nat) : Int) := by omega
  exact (zl_118 n (m0 := m0) hc0 hxp0 4907)  m151 hIm151 hFm151 (by omega) (by omega) (by omega) (by omega) (by omega) hRKNm151 hRNSm151 hRTRm151 hRWDm151 hM
set_option maxHeartbeats 4000000 in
theorem zk_147 (n : Nat) {a0 a1 a2 a3 : Int} {m0 : zu_m} (hIm0 : zi_I m0) (hc0 : zcls a0 = 28) (ha1 : (-2147483648) ≤ a1 ∧ a1 ≤ 2147483647) (ha2 : (-2147483648) ≤ a2 ∧ a2 ≤ 2147483647) (ha3 : (-2147483648) ≤ a3 ∧ a3 ≤ 2147483647)    (hRKNm0 : zR_KN m0) : zw (zu_call (zt_T n) 147 [(40, a0), (0, a1), (0, a2), (0, a3)] m0) (fun v m => zi_I m ∧ zfr [(28, 3), (28, 54), (122, 0), (123, 0)] m0 m ∧ zR_KN m ∧ ((-9223372036854775808) ≤ v ∧ v ≤ 9223372036854775807) ∧ (0 ≤ m a0 2 ∧ m a0 2 ≤ 0)) := by
  have hFm0 : zfr [(28, 3), (28, 54), (122, 0), (123, 0)] m0 m0 := zfr_rf _ _
  refine zw_eq (zu_call_at (zt_T n) (zm_147 n) (zdp_147 n) _ _ _ _ _ rfl (zr_147_0 n _ _ a0 a1 a2 a3 m0)) ?_
  generalize hmm1 : zu_up m0 a0 2 0 = m1
  have hIm1 := zi_up hmm1 hIm0 hc0 zb_28_2 (by omega) (by omega)
  have hFm1 := zfr_up hmm1 hFm0 hc0 rfl
  have hRKNm1 := zR_KN_fr (zdis_fr (zfr_up hmm1 (zfr_rf [(28, 3)] _) hc0 rfl) rfl) hRKNm0
  refine zw_bd (zw_eq (zu_call_at (zt_T n) (zm_83 n) (zdp_83 n) _ _ _ _ _ rfl (zr_83_0 n _ _ a1 0 3 m1)) ?_)
  refine zw_ite (fun h2 => ?_) (fun h2 => ?_)
  · refine zw_b (by omega) ?_
    refine zw_some ?_
    refine zw_ite (fun h3 => ?_) (fun h3 => ?_)
    · exfalso; omega
    · have r4 : (-2147483648) ≤ (m1 a0 2) ∧ (m1 a0 2) ≤ 2147483647 := zi_rd hIm1 hc0 zb_28_2
      have e5 : (m1 a0 2) = 0 := (zs_eq hmm1)
      exact zw_some ⟨hIm1, hFm1, hRKNm1, ⟨by omega, by omega⟩, ⟨by omega, by omega⟩⟩
  · refine zw_ite (fun h6 => ?_) (fun h6 => ?_)
    · refine zw_b (by omega) ?_
      refine zw_some ?_
      refine zw_ite (fun h7 => ?_) (fun h7 => ?_)
      · exfalso; omega
      · have r8 : (-2147483648) ≤ (m1 a0 2) ∧ (m1 a0 2) ≤ 2147483647 := zi_rd hIm1 hc0 zb_28_2
        have e9 : (m1 a0 2) = 0 := (zs_eq hmm1)
        exact zw_some ⟨hIm1, hFm1, hRKNm1, ⟨by omega, by omega⟩, ⟨by omega, by omega⟩⟩
    · refine zw_b (by omega) ?_
      refine zw_some ?_
      refine zw_ite (fun h10 => ?_) (fun h10 => ?_)
      · refine zw_ite (fun h11 => ?_) (fun h11 => ?_)
        · refine zw_ite (fun h12 => ?_) (fun h12 => ?_)
          · refine zw_bd (zw_eq (zu_call_at (zt_T n) (zm_124 n) (zdp_124 n) _ _ _ _ _ rfl (zr_124_0 n _ _ a0 a2 m1)) ?_)
            refine zw_ite (fun h13 => ?_) (fun h13 => ?_)
            · refine zw_b (by omega) ?_
              refine zw_some ?_
              refine zw_ite (fun h14 => ?_) (fun h14 => ?_)
              · exfalso; omega
              · have r15 : (-2147483648) ≤ (m1 a0 2) ∧ (m1 a0 2) ≤ 2147483647 := zi_rd hIm1 hc0 zb_28_2
                have e16 : (m1 a0 2) = 0 := (zs_eq hmm1)
                exact zw_some ⟨hIm1, hFm1, hRKNm1, ⟨by omega, by omega⟩, ⟨by omega, by omega⟩⟩
            · have b17 : 0 ≤ (0 : Int) ∧ (0 : Int) < 2 := by omega
              refine zw_if b17 ?_
              have r18 : 0 ≤ (m1 216 0) ∧ (m1 216 0) ≤ 16 := zi_rdr (m := 2) (r0 := 0) (r1 := 0) hIm1 zq_216 (by omega) (by decide +kernel)
              refine zw_ite (fun h19 => ?_) (fun h19 => ?_)
              · refine zw_b (by omega) ?_
                refine zw_some ?_
                refine zw_ite (fun h20 => ?_) (fun h20 => ?_)
                · exfalso; omega
                · have r21 : (-2147483648) ≤ (m1 a0 2) ∧ (m1 a0 2) ≤ 2147483647 := zi_rd hIm1 hc0 zb_28_2
                  have e22 : (m1 a0 2) = 0 := (zs_eq hmm1)
                  exact zw_some ⟨hIm1, hFm1, hRKNm1, ⟨by omega, by omega⟩, ⟨by omega, by omega⟩⟩
              · refine zw_b (by omega) ?_
                refine zw_some ?_
                refine zw_ite (fun h23 => ?_) (fun h23 => ?_)
                · refine zw_ite (fun h24 => ?_) (fun h24 => ?_)
                  · refine zw_ite (fun h25 => ?_) (fun h25 => ?_)
                    · refine zw_ite (fun h26 => ?_) (fun h26 => ?_)
                      · have b27 : 0 ≤ (3 : Int) ∧ (3 : Int) < 8 := by omega
                        refine zw_if b27 ?_
                        have r28 : 0 ≤ (m1 205 3) ∧ (m1 205 3) ≤ 1 := zi_rd hIm1 zq_205 (zb_114 _)
                        refine zw_ite (fun h29 => ?_) (fun h29 => ?_)
                        · refine zw_ite (fun h30 => ?_) (fun h30 => ?_)
                          · refine zw_ite (fun h31 => ?_) (fun h31 => ?_)
                            · have b32 : 0 ≤ a2 ∧ a2 < 36 := by omega
                              refine zw_if b32 ?_
                              have r33 : 0 ≤ (m1 199 a2) ∧ (m1 199 a2) ≤ 9 := zi_rd hIm1 zq_199 (zb_108 _)
                              have b34 : 0 ≤ a2 ∧ a2 < 36 := by omega
                              refine zw_if b34 ?_
                              have r35 : 0 ≤ (m1 197 a2) ∧ (m1 197 a2) ≤ 47 := zi_rd hIm1 zq_197 (zb_106 _)
                              have b36 : 0 ≤ a2 ∧ a2 < 36 := by omega
                              refine zw_if b36 ?_
                              have r37 : 0 ≤ (m1 198 a2) ∧ (m1 198 a2) ≤ 3 := zi_rd hIm1 zq_198 (zb_107 _)
                              have b38 : 0 ≤ (0 : Int) ∧ (0 : Int) < 2 := by omega
                              refine zw_if b38 ?_
                              have r39 : (-2147483648) ≤ (m1 221 0) ∧ (m1 221 0) ≤ 2147483647 := zi_rd hIm1 zq_221 (zb_130 _)
                              refine zw_bd (zw_mono (zk_38 n hIm1 hc0 ⟨by omega, by omega⟩ ⟨by omega, by omega⟩ ⟨by omega, by omega⟩ ⟨by omega, by omega⟩ ⟨by omega, by omega⟩ ⟨by omega, by omega⟩) (fun v41 m40 hqm40 => ?_))
                              obtain ⟨hIm40, hfm40, hvm40⟩ := hqm40
                              have hFm40 := zfr_tr hFm1 hfm40 rfl
                              have hRKNm40 := zR_KN_fr (zdis_fr hfm40 rfl) hRKNm1
                              refine zw_bd (zw_mono (zk_127 n hIm40 hc0 ⟨by omega, by omega⟩ hRKNm40) (fun v43 m42 hqm42 => ?_))
                              obtain ⟨hIm42, hfm42, hvm42⟩ := hqm42
                              have hFm42 := zfr_tr hFm40 hfm42 rfl
                              obtain ⟨hRKNm42, hvm42⟩ := hvm42
                              have r44 : 0 ≤ (m42 a0 53) ∧ (m42 a0 53) ≤ 1 := zi_rd hIm42 hc0 zb_28_53
                              refine zw_ite (fun h45 => ?_) (fun h45 => ?_)
                              · have r46 : (-2147483648) ≤ (m42 a0 2) ∧ (m42 a0 2) ≤ 2147483647 := zi_rd hIm42 hc0 zb_28_2
                                have e47 : (m42 a0 2) = 0 := (Eq.trans (zfr_ap hfm42 hc0 rfl) (Eq.trans (zfr_ap hfm40 hc0 rfl) (zs_eq hmm1)))
                                exact zw_some ⟨hIm42, hFm42, hRKNm42, ⟨by omega, by omega⟩, ⟨by omega, by omega⟩⟩
                              · have r48 : (-2147483648) ≤ (m42 a0 2) ∧ (m42 a0 2) ≤ 2147483647 := zi_rd hIm42 hc0 zb_28_2
                                have e49 : (m42 a0 2) = 0 := (Eq.trans (zfr_ap hfm42 hc0 rfl) (Eq.trans (zfr_ap hfm40 hc0 rfl) (zs_eq hmm1)))
                                exact zw_some ⟨hIm42, hFm42, hRKNm42, ⟨by omega, by omega⟩, ⟨by omega, by omega⟩⟩
                            · exfalso; omega
                          · exfalso; omega
                        · have r50 : (-2147483648) ≤ (m1 a0 2) ∧ (m1 a0 2) ≤ 2147483647 := zi_rd hIm1 hc0 zb_28_2
                          have e51 : (m1 a0 2) = 0 := (zs_eq hmm1)
                          exact zw_some ⟨hIm1, hFm1, hRKNm1, ⟨by omega, by omega⟩, ⟨by omega, by omega⟩⟩
                      · exfalso; omega
                    · exfalso; omega
                  · exfalso; omega
                · exfalso; omega
          · refine zw_bd (zw_eq (zu_call_at (zt_T n) (zm_123 n) (zdp_123 n) _ _ _ _ _ rfl (zr_123_0 n _ _ a0 a2 m1)) ?_)
            refine zw_ite (fun h52 => ?_) (fun h52 => ?_)
            · refine zw_b (by omega) ?_
              refine zw_some ?_
              refine zw_ite (fun h53 => ?_) (fun h53 => ?_)
              · exfalso; omega
              · have r54 : (-2147483648) ≤ (m1 a0 2) ∧ (m1 a0 2) ≤ 2147483647 := zi_rd hIm1 hc0 zb_28_2
                have e55 : (m1 a0 2) = 0 := (zs_eq hmm1)
                exact zw_some ⟨hIm1, hFm1, hRKNm1, ⟨by omega, by omega⟩, ⟨by omega, by omega⟩⟩
            · refine zw_bd (zw_eq (zu_call_at (zt_T n) (zm_36 n) (zdp_36 n) _ _ _ _ _ rfl (zr_36_0 n _ _ a0 m1)) ?_)
              have r56 : 1 ≤ (m1 a0 12) ∧ (m1 a0 12) ≤ 8 := zi_rd hIm1 hc0 zb_28_12
              have r57 : 1 ≤ (m1 a0 13) ∧ (m1 a0 13) ≤ 6 := zi_rd hIm1 hc0 zb_28_13
              have p58 := zmul_bd (x := (m1 a0 12)) (y := (m1 a0 13)) (a := 1) (b := 1) (A := 8) (B := 6) (by omega) (by omega) (by omega) (by omega) (by omega) (by omega)
              have w59 := zu_w32_id (z := (m1 a0 12) * (m1 a0 13)) (by omega) (by omega)
              refine zw_some ?_
              refine zw_ite (fun h60 => ?_) (fun h60 => ?_)
              · refine zw_b (by omega) ?_
                refine zw_some ?_
                refine zw_ite (fun h61 => ?_) (fun h61 => ?_)
                · exfalso; omega
                · have r62 : (-2147483648) ≤ (m1 a0 2) ∧ (m1 a0 2) ≤ 2147483647 := zi_rd hIm1 hc0 zb_28_2
                  have e63 : (m1 a0 2) = 0 := (zs_eq hmm1)
                  exact zw_some ⟨hIm1, hFm1, hRKNm1, ⟨by omega, by omega⟩, ⟨by omega, by omega⟩⟩
              · refine zw_b (by omega) ?_
                refine zw_some ?_
                refine zw_ite (fun h64 => ?_) (fun h64 => ?_)
                · refine zw_ite (fun h65 => ?_) (fun h65 => ?_)
                  · refine zw_ite (fun h66 => ?_) (fun h66 => ?_)
                    · refine zw_ite (fun h67 => ?_) (fun h67 => ?_)
                      · exfalso; omega
                      · have b68 : 0 ≤ (1 : Int) ∧ (1 : Int) < 8 := by omega
                        refine zw_if b68 ?_
                        have r69 : 0 ≤ (m1 205 1) ∧ (m1 205 1) ≤ 1 := zi_rd hIm1 zq_205 (zb_114 _)
                        refine zw_ite (fun h70 => ?_) (fun h70 => ?_)
                        · refine zw_ite (fun h71 => ?_) (fun h71 => ?_)
                          · refine zw_ite (fun h72 => ?_) (fun h72 => ?_)
                            · exfalso; omega
                            · refine zw_bd (zw_mono (zk_38 n hIm1 hc0 ⟨by omega, by omega⟩ ⟨by omega, by omega⟩ ⟨by omega, by omega⟩ ⟨by omega, by omega⟩ ⟨by omega, by omega⟩ ⟨by omega, by omega⟩) (fun v74 m73 hqm73 => ?_))
                              obtain ⟨hIm73, hfm73, hvm73⟩ := hqm73
                              have hFm73 := zfr_tr hFm1 hfm73 rfl
                              have hRKNm73 := zR_KN_fr (zdis_fr hfm73 rfl) hRKNm1
                              refine zw_bd (zw_mono (zk_127 n hIm73 hc0 ⟨by omega, by omega⟩ hRKNm73) (fun v76 m75 hqm75 => ?_))
                              obtain ⟨hIm75, hfm75, hvm75⟩ := hqm75
                              have hFm75 := zfr_tr hFm73 hfm75 rfl
                              obtain ⟨hRKNm75, hvm75⟩ := hvm75
                              have r77 : 0 ≤ (m75 a0 53) ∧ (m75 a0 53) ≤ 1 := zi_rd hIm75 hc0 zb_28_53
                              refine zw_ite (fun h78 => ?_) (fun h78 => ?_)
                              · have r79 : (-2147483648) ≤ (m75 a0 2) ∧ (m75 a0 2) ≤ 2147483647 := zi_rd hIm75 hc0 zb_28_2
                                have e80 : (m75 a0 2) = 0 := (Eq.trans (zfr_ap hfm75 hc0 rfl) (Eq.trans (zfr_ap hfm73 hc0 rfl) (zs_eq hmm1)))
                                exact zw_some ⟨hIm75, hFm75, hRKNm75, ⟨by omega, by omega⟩, ⟨by omega, by omega⟩⟩
                              · have r81 : (-2147483648) ≤ (m75 a0 2) ∧ (m75 a0 2) ≤ 2147483647 := zi_rd hIm75 hc0 zb_28_2
                                have e82 : (m75 a0 2) = 0 := (Eq.trans (zfr_ap hfm75 hc0 rfl) (Eq.trans (zfr_ap hfm73 hc0 rfl) (zs_eq hmm1)))
                                exact zw_some ⟨hIm75, hFm75, hRKNm75, ⟨by omega, by omega⟩, ⟨by omega, by omega⟩⟩
                          · exfalso; omega
                        · have r83 : (-2147483648) ≤ (m1 a0 2) ∧ (m1 a0 2) ≤ 2147483647 := zi_rd hIm1 hc0 zb_28_2
                          have e84 : (m1 a0 2) = 0 := (zs_eq hmm1)
                          exact zw_some ⟨hIm1, hFm1, hRKNm1, ⟨by omega, by omega⟩, ⟨by omega, by omega⟩⟩
                    · exfalso; omega
                  · exfalso; omega
                · exfalso; omega
        · refine zw_bd (zw_eq (zu_call_at (zt_T n) (zm_125 n) (zdp_125 n) _ _ _ _ _ rfl (zr_125_0 n _ _ a0 a2 m1)) ?_)
          refine zw_ite (fun h85 => ?_) (fun h85 => ?_)
          · refine zw_b (by omega) ?_
            refine zw_some ?_
            refine zw_ite (fun h86 => ?_) (fun h86 => ?_)
            · have r87 : (-2147483648) ≤ (m1 a0 2) ∧ (m1 a0 2) ≤ 2147483647 := zi_rd hIm1 hc0 zb_28_2
              have e88 : (m1 a0 2) = 0 := (zs_eq hmm1)
              exact zw_some ⟨hIm1, hFm1, hRKNm1, ⟨by omega, by omega⟩, ⟨by omega, by omega⟩⟩
            · exfalso; omega
          · have r89 : 0 ≤ (m1 a0 15) ∧ (m1 a0 15) ≤ 4 := zi_rd hIm1 hc0 zb_28_15
            refine zw_ite (fun h90 => ?_) (fun h90 => ?_)
            · refine zw_b (by omega) ?_
              refine zw_some ?_
              refine zw_ite (fun h91 => ?_) (fun h91 => ?_)
              · have r92 : (-2147483648) ≤ (m1 a0 2) ∧ (m1 a0 2) ≤ 2147483647 := zi_rd hIm1 hc0 zb_28_2
                have e93 : (m1 a0 2) = 0 := (zs_eq hmm1)
                exact zw_some ⟨hIm1, hFm1, hRKNm1, ⟨by omega, by omega⟩, ⟨by omega, by omega⟩⟩
              · exfalso; omega
            · refine zw_b (by omega) ?_
              refine zw_some ?_
              refine zw_ite (fun h94 => ?_) (fun h94 => ?_)
              · exfalso; omega
              · refine zw_bd (zw_eq (zu_call_at (zt_T n) (zm_124 n) (zdp_124 n) _ _ _ _ _ rfl (zr_124_0 n _ _ a0 a3 m1)) ?_)
                refine zw_ite (fun h95 => ?_) (fun h95 => ?_)
                · refine zw_b (by omega) ?_
                  refine zw_some ?_
                  refine zw_ite (fun h96 => ?_) (fun h96 => ?_)
                  · exfalso; omega
                  · have r97 : (-2147483648) ≤ (m1 a0 2) ∧ (m1 a0 2) ≤ 2147483647 := zi_rd hIm1 hc0 zb_28_2
                    have e98 : (m1 a0 2) = 0 := (zs_eq hmm1)
                    exact zw_some ⟨hIm1, hFm1, hRKNm1, ⟨by omega, by omega⟩, ⟨by omega, by omega⟩⟩
                · have b99 : 0 ≤ (0 : Int) ∧ (0 : Int) < 2 := by omega
                  refine zw_if b99 ?_
                  have r100 : 0 ≤ (m1 216 0) ∧ (m1 216 0) ≤ 16 := zi_rdr (m := 2) (r0 := 0) (r1 := 0) hIm1 zq_216 (by omega) (by decide +kernel)
                  refine zw_ite (fun h101 => ?_) (fun h101 => ?_)
                  · refine zw_b (by omega) ?_
                    refine zw_some ?_
                    refine zw_ite (fun h102 => ?_) (fun h102 => ?_)
                    · exfalso; omega
                    · have r103 : (-2147483648) ≤ (m1 a0 2) ∧ (m1 a0 2) ≤ 2147483647 := zi_rd hIm1 hc0 zb_28_2
                      have e104 : (m1 a0 2) = 0 := (zs_eq hmm1)
                      exact zw_some ⟨hIm1, hFm1, hRKNm1, ⟨by omega, by omega⟩, ⟨by omega, by omega⟩⟩
                  · refine zw_b (by omega) ?_
                    refine zw_some ?_
                    refine zw_ite (fun h105 => ?_) (fun h105 => ?_)
                    · refine zw_ite (fun h106 => ?_) (fun h106 => ?_)
                      · refine zw_ite (fun h107 => ?_) (fun h107 => ?_)
                        · exfalso; omega
                        · have b108 : 0 ≤ (2 : Int) ∧ (2 : Int) < 8 := by omega
                          refine zw_if b108 ?_
                          have r109 : 0 ≤ (m1 205 2) ∧ (m1 205 2) ≤ 1 := zi_rd hIm1 zq_205 (zb_114 _)
                          refine zw_ite (fun h110 => ?_) (fun h110 => ?_)
                          · refine zw_ite (fun h111 => ?_) (fun h111 => ?_)
                            · exfalso; omega
                            · have b112 : 0 ≤ a2 ∧ a2 < 8 := by omega
                              refine zw_if b112 ?_
                              have r113 : 0 ≤ (m1 202 a2) ∧ (m1 202 a2) ≤ 15 := zi_rd hIm1 zq_202 (zb_111 _)
                              have b114 : 0 ≤ a3 ∧ a3 < 36 := by omega
                              refine zw_if b114 ?_
                              have r115 : 0 ≤ (m1 199 a3) ∧ (m1 199 a3) ≤ 9 := zi_rd hIm1 zq_199 (zb_108 _)
                              have b116 : 0 ≤ a3 ∧ a3 < 36 := by omega
                              refine zw_if b116 ?_
                              have r117 : 0 ≤ (m1 197 a3) ∧ (m1 197 a3) ≤ 47 := zi_rd hIm1 zq_197 (zb_106 _)
                              have b118 : 0 ≤ a3 ∧ a3 < 36 := by omega
                              refine zw_if b118 ?_
                              have r119 : 0 ≤ (m1 198 a3) ∧ (m1 198 a3) ≤ 3 := zi_rd hIm1 zq_198 (zb_107 _)
                              have b120 : 0 ≤ a3 ∧ a3 < 36 := by omega
                              refine zw_if b120 ?_
                              refine zw_nif (by omega) ?_
                              have d121 : Int.tmod a2 4 = a2 % 4 := Int.tmod_eq_emod_of_nonneg (by omega)
                              refine zw_ite (fun h122 => ?_) (fun h122 => ?_)
                              · refine zw_ite (fun h123 => ?_) (fun h123 => ?_)
                                · refine zw_bd (zw_mono (zk_38 n hIm1 hc0 ⟨by omega, by omega⟩ ⟨by omega, by omega⟩ ⟨by omega, by omega⟩ ⟨by omega, by omega⟩ ⟨by omega, by omega⟩ ⟨by omega, by omega⟩) (fun v125 m124 hqm124 => ?_))
                                  obtain ⟨hIm124, hfm124, hvm124⟩ := hqm124
                                  have hFm124 := zfr_tr hFm1 hfm124 rfl
                                  have hRKNm124 := zR_KN_fr (zdis_fr hfm124 rfl) hRKNm1
                                  refine zw_bd (zw_mono (zk_127 n hIm124 hc0 ⟨by omega, by omega⟩ hRKNm124) (fun v127 m126 hqm126 => ?_))
                                  obtain ⟨hIm126, hfm126, hvm126⟩ := hqm126
                                  have hFm126 := zfr_tr hFm124 hfm126 rfl
                                  obtain ⟨hRKNm126, hvm126⟩ := hvm126
                                  have r128 : 0 ≤ (m126 a0 53) ∧ (m126 a0 53) ≤ 1 := zi_rd hIm126 hc0 zb_28_53
                                  refine zw_ite (fun h129 => ?_) (fun h129 => ?_)
                                  · have r130 : (-2147483648) ≤ (m126 a0 2) ∧ (m126 a0 2) ≤ 2147483647 := zi_rd hIm126 hc0 zb_28_2
                                    have e131 : (m126 a0 2) = 0 := (Eq.trans (zfr_ap hfm126 hc0 rfl) (Eq.trans (zfr_ap hfm124 hc0 rfl) (zs_eq hmm1)))
                                    exact zw_some ⟨hIm126, hFm126, hRKNm126, ⟨by omega, by omega⟩, ⟨by omega, by omega⟩⟩
                                  · have r132 : (-2147483648) ≤ (m126 a0 2) ∧ (m126 a0 2) ≤ 2147483647 := zi_rd hIm126 hc0 zb_28_2
                                    have e133 : (m126 a0 2) = 0 := (Eq.trans (zfr_ap hfm126 hc0 rfl) (Eq.trans (zfr_ap hfm124 hc0 rfl) (zs_eq hmm1)))
                                    exact zw_some ⟨hIm126, hFm126, hRKNm126, ⟨by omega, by omega⟩, ⟨by omega, by omega⟩⟩
                                · exfalso; omega
                              · refine zw_ite (fun h134 => ?_) (fun h134 => ?_)
                                · refine zw_bd (zw_mono (zk_38 n hIm1 hc0 ⟨by omega, by omega⟩ ⟨by omega, by omega⟩ ⟨by omega, by omega⟩ ⟨by omega, by omega⟩ ⟨by omega, by omega⟩ ⟨by omega, by omega⟩) (fun v136 m135 hqm135 => ?_))
                                  obtain ⟨hIm135, hfm135, hvm135⟩ := hqm135
                                  have hFm135 := zfr_tr hFm1 hfm135 rfl
                                  have hRKNm135 := zR_KN_fr (zdis_fr hfm135 rfl) hRKNm1
                                  refine zw_bd (zw_mono (zk_127 n hIm135 hc0 ⟨by omega, by omega⟩ hRKNm135) (fun v138 m137 hqm137 => ?_))
                                  obtain ⟨hIm137, hfm137, hvm137⟩ := hqm137
                                  have hFm137 := zfr_tr hFm135 hfm137 rfl
                                  obtain ⟨hRKNm137, hvm137⟩ := hvm137
                                  have r139 : 0 ≤ (m137 a0 53) ∧ (m137 a0 53) ≤ 1 := zi_rd hIm137 hc0 zb_28_53
                                  refine zw_ite (fun h140 => ?_) (fun h140 => ?_)
                                  · have r141 : (-2147483648) ≤ (m137 a0 2) ∧ (m137 a0 2) ≤ 2147483647 := zi_rd hIm137 hc0 zb_28_2
                                    have e142 : (m137 a0 2) = 0 := (Eq.trans (zfr_ap hfm137 hc0 rfl) (Eq.trans (zfr_ap hfm135 hc0 rfl) (zs_eq hmm1)))
                                    exact zw_some ⟨hIm137, hFm137, hRKNm137, ⟨by omega, by omega⟩, ⟨by omega, by omega⟩⟩
                                  · have r143 : (-2147483648) ≤ (m137 a0 2) ∧ (m137 a0 2) ≤ 2147483647 := zi_rd hIm137 hc0 zb_28_2
                                    have e144 : (m137 a0 2) = 0 := (Eq.trans (zfr_ap hfm137 hc0 rfl) (Eq.trans (zfr_ap hfm135 hc0 rfl) (zs_eq hmm1)))
                                    exact zw_some ⟨hIm137, hFm137, hRKNm137, ⟨by omega, by omega⟩, ⟨by omega, by omega⟩⟩
                                · exfalso; omega
                          · have r145 : (-2147483648) ≤ (m1 a0 2) ∧ (m1 a0 2) ≤ 2147483647 := zi_rd hIm1 hc0 zb_28_2
                            have e146 : (m1 a0 2) = 0 := (zs_eq hmm1)
                            exact zw_some ⟨hIm1, hFm1, hRKNm1, ⟨by omega, by omega⟩, ⟨by omega, by omega⟩⟩
                      · have b147 : 0 ≤ (0 : Int) ∧ (0 : Int) < 8 := by omega
                        refine zw_if b147 ?_
                        have r148 : 0 ≤ (m1 205 0) ∧ (m1 205 0) ≤ 1 := zi_rd hIm1 zq_205 (zb_114 _)
                        refine zw_ite (fun h149 => ?_) (fun h149 => ?_)
                        · refine zw_ite (fun h150 => ?_) (fun h150 => ?_)
                          · exfalso; omega
                          · have b151 : 0 ≤ a2 ∧ a2 < 8 := by omega
                            refine zw_if b151 ?_
                            have r152 : 0 ≤ (m1 202 a2) ∧ (m1 202 a2) ≤ 15 := zi_rd hIm1 zq_202 (zb_111 _)
                            have b153 : 0 ≤ a3 ∧ a3 < 36 := by omega
                            refine zw_if b153 ?_
                            have r154 : 0 ≤ (m1 199 a3) ∧ (m1 199 a3) ≤ 9 := zi_rd hIm1 zq_199 (zb_108 _)
                            have b155 : 0 ≤ a3 ∧ a3 < 36 := by omega
                            refine zw_if b155 ?_
                            have r156 : 0 ≤ (m1 197 a3) ∧ (m1 197 a3) ≤ 47 := zi_rd hIm1 zq_197 (zb_106 _)
                            have b157 : 0 ≤ a3 ∧ a3 < 36 := by omega
                            refine zw_if b157 ?_
                            have r158 : 0 ≤ (m1 198 a3) ∧ (m1 198 a3) ≤ 3 := zi_rd hIm1 zq_198 (zb_107 _)
                            have b159 : 0 ≤ a3 ∧ a3 < 36 := by omega
                            refine zw_if b159 ?_
                            refine zw_nif (by omega) ?_
                            have d160 : Int.tmod a2 4 = a2 % 4 := Int.tmod_eq_emod_of_nonneg (by omega)
                            refine zw_ite (fun h161 => ?_) (fun h161 => ?_)
                            · refine zw_ite (fun h162 => ?_) (fun h162 => ?_)
                              · exfalso; omega
                              · refine zw_bd (zw_mono (zk_130 n hIm1 hc0 ⟨by omega, by omega⟩ ⟨by omega, by omega⟩) (fun v164 m163 hqm163 => ?_))
                                obtain ⟨hIm163, hfm163, hvm163⟩ := hqm163
                                have hFm163 := zfr_tr hFm1 hfm163 rfl
                                have hRKNm163 := zR_KN_fr (zdis_fr hfm163 rfl) hRKNm1
                                refine zw_bd (zw_mono (zk_38 n hIm163 hc0 ⟨by omega, by omega⟩ ⟨by omega, by omega⟩ ⟨by omega, by omega⟩ ⟨by omega, by omega⟩ ⟨by omega, by omega⟩ ⟨by omega, by omega⟩) (fun v166 m165 hqm165 => ?_))
                                obtain ⟨hIm165, hfm165, hvm165⟩ := hqm165
                                have hFm165 := zfr_tr hFm163 hfm165 rfl
                                have hRKNm165 := zR_KN_fr (zdis_fr hfm165 rfl) hRKNm163
                                refine zw_bd (zw_mono (zk_127 n hIm165 hc0 ⟨by omega, by omega⟩ hRKNm165) (fun v168 m167 hqm167 => ?_))
                                obtain ⟨hIm167, hfm167, hvm167⟩ := hqm167
                                have hFm167 := zfr_tr hFm165 hfm167 rfl
                                obtain ⟨hRKNm167, hvm167⟩ := hvm167
                                have r169 : 0 ≤ (m167 a0 53) ∧ (m167 a0 53) ≤ 1 := zi_rd hIm167 hc0 zb_28_53
                                refine zw_ite (fun h170 => ?_) (fun h170 => ?_)
                                · have r171 : (-2147483648) ≤ (m167 a0 2) ∧ (m167 a0 2) ≤ 2147483647 := zi_rd hIm167 hc0 zb_28_2
                                  have e172 : (m167 a0 2) = 0 := (Eq.trans (zfr_ap hfm167 hc0 rfl) (Eq.trans (zfr_ap hfm165 hc0 rfl) (Eq.trans (zfr_ap hfm163 hc0 rfl) (zs_eq hmm1))))
                                  exact zw_some ⟨hIm167, hFm167, hRKNm167, ⟨by omega, by omega⟩, ⟨by omega, by omega⟩⟩
                                · have r173 : (-2147483648) ≤ (m167 a0 2) ∧ (m167 a0 2) ≤ 2147483647 := zi_rd hIm167 hc0 zb_28_2
                                  have e174 : (m167 a0 2) = 0 := (Eq.trans (zfr_ap hfm167 hc0 rfl) (Eq.trans (zfr_ap hfm165 hc0 rfl) (Eq.trans (zfr_ap hfm163 hc0 rfl) (zs_eq hmm1))))
                                  exact zw_some ⟨hIm167, hFm167, hRKNm167, ⟨by omega, by omega⟩, ⟨by omega, by omega⟩⟩
                            · refine zw_ite (fun h175 => ?_) (fun h175 => ?_)
                              · exfalso; omega
                              · refine zw_bd (zw_mono (zk_130 n hIm1 hc0 ⟨by omega, by omega⟩ ⟨by omega, by omega⟩) (fun v177 m176 hqm176 => ?_))
                                obtain ⟨hIm176, hfm176, hvm176⟩ := hqm176
                                have hFm176 := zfr_tr hFm1 hfm176 rfl
                                have hRKNm176 := zR_KN_fr (zdis_fr hfm176 rfl) hRKNm1
                                refine zw_bd (zw_mono (zk_38 n hIm176 hc0 ⟨by omega, by omega⟩ ⟨by omega, by omega⟩ ⟨by omega, by omega⟩ ⟨by omega, by omega⟩ ⟨by omega, by omega⟩ ⟨by omega, by omega⟩) (fun v179 m178 hqm178 => ?_))
                                obtain ⟨hIm178, hfm178, hvm178⟩ := hqm178
                                have hFm178 := zfr_tr hFm176 hfm178 rfl
                                have hRKNm178 := zR_KN_fr (zdis_fr hfm178 rfl) hRKNm176
                                refine zw_bd (zw_mono (zk_127 n hIm178 hc0 ⟨by omega, by omega⟩ hRKNm178) (fun v181 m180 hqm180 => ?_))
                                obtain ⟨hIm180, hfm180, hvm180⟩ := hqm180
                                have hFm180 := zfr_tr hFm178 hfm180 rfl
                                obtain ⟨hRKNm180, hvm180⟩ := hvm180
                                have r182 : 0 ≤ (m180 a0 53) ∧ (m180 a0 53) ≤ 1 := zi_rd hIm180 hc0 zb_28_53
                                refine zw_ite (fun h183 => ?_) (fun h183 => ?_)
                                · have r184 : (-2147483648) ≤ (m180 a0 2) ∧ (m180 a0 2) ≤ 2147483647 := zi_rd hIm180 hc0 zb_28_2
                                  have e185 : (m180 a0 2) = 0 := (Eq.trans (zfr_ap hfm180 hc0 rfl) (Eq.trans (zfr_ap hfm178 hc0 rfl) (Eq.trans (zfr_ap hfm176 hc0 rfl) (zs_eq hmm1))))
                                  exact zw_some ⟨hIm180, hFm180, hRKNm180, ⟨by omega, by omega⟩, ⟨by omega, by omega⟩⟩
                                · have r186 : (-2147483648) ≤ (m180 a0 2) ∧ (m180 a0 2) ≤ 2147483647 := zi_rd hIm180 hc0 zb_28_2
                                  have e187 : (m180 a0 2) = 0 := (Eq.trans (zfr_ap hfm180 hc0 rfl) (Eq.trans (zfr_ap hfm178 hc0 rfl) (Eq.trans (zfr_ap hfm176 hc0 rfl) (zs_eq hmm1))))
                                  exact zw_some ⟨hIm180, hFm180, hRKNm180, ⟨by omega, by omega⟩, ⟨by omega, by omega⟩⟩
                        · have r188 : (-2147483648) ≤ (m1 a0 2) ∧ (m1 a0 2) ≤ 2147483647 := zi_rd hIm1 hc0 zb_28_2
                          have e189 : (m1 a0 2) = 0 := (zs_eq hmm1)
                          exact zw_some ⟨hIm1, hFm1, hRKNm1, ⟨by omega, by omega⟩, ⟨by omega, by omega⟩⟩
                    · exfalso; omega
      · exfalso; omega
set_option maxHeartbeats 4000000 in
theorem zk_157 (n : Nat) {a0 a1 : Int} {m0 : zu_m} (hIm0 : zi_I m0) (hc0 : zcls a0 = 28) (ha1 : (-2147483648) ≤ a1 ∧ a1 ≤ 2147483647)     : zw (zu_call (zt_T n) 157 [(40, a0), (0, a1)] m0) (fun v m => zi_I m ∧ zfr [(28, 3), (28, 65), (28, 66), (28, 67), (28, 68), (28, 69), (28, 70), (132, 0)] m0 m ∧ ((-1) ≤ v ∧ v ≤ 47) ∧ (0 ≤ m a0 2 ∧ m a0 2 ≤ 0)) := by
  have hFm0 : zfr [(28, 3), (28, 65), (28, 66), (28, 67), (28, 68), (28, 69), (28, 70), (132, 0)] m0 m0 := zfr_rf _ _
  refine zw_eq (zu_call_at (zt_T n) (zm_157 n) (zdp_157 n) _ _ _ _ _ rfl (zr_157_0 n _ _ a0 a1 m0)) ?_
  generalize hmm1 : zu_up m0 a0 2 0 = m1
  have hIm1 := zi_up hmm1 hIm0 hc0 zb_28_2 (by omega) (by omega)
  have hFm1 := zfr_up hmm1 hFm0 hc0 rfl
  refine zw_bd (zw_eq (zu_call_at (zt_T n) (zm_125 n) (zdp_125 n) _ _ _ _ _ rfl (zr_125_0 n _ _ a0 a1 m1)) ?_)
  refine zw_ite (fun h2 => ?_) (fun h2 => ?_)
  · refine zw_b (by omega) ?_
    refine zw_some ?_
    refine zw_ite (fun h3 => ?_) (fun h3 => ?_)
    · exfalso; omega
    · have r4 : (-2147483648) ≤ (m1 a0 2) ∧ (m1 a0 2) ≤ 2147483647 := zi_rd hIm1 hc0 zb_28_2
      have e5 : (m1 a0 2) = 0 := (zs_eq hmm1)
      exact zw_some ⟨hIm1, hFm1, ⟨by omega, by omega⟩, ⟨by omega, by omega⟩⟩
  · have r6 : 0 ≤ (m1 a0 15) ∧ (m1 a0 15) ≤ 4 := zi_rd hIm1 hc0 zb_28_15
    refine zw_ite (fun h7 => ?_) (fun h7 => ?_)
    · refine zw_b (by omega) ?_
      refine zw_some ?_
      refine zw_ite (fun h8 => ?_) (fun h8 => ?_)
      · exfalso; omega
      · have r9 : (-2147483648) ≤ (m1 a0 2) ∧ (m1 a0 2) ≤ 2147483647 := zi_rd hIm1 hc0 zb_28_2
        have e10 : (m1 a0 2) = 0 := (zs_eq hmm1)
        exact zw_some ⟨hIm1, hFm1, ⟨by omega, by omega⟩, ⟨by omega, by omega⟩⟩
    · refine zw_b (by omega) ?_
      refine zw_some ?_
      refine zw_ite (fun h11 => ?_) (fun h11 => ?_)
      · refine zw_bd (zw_mono (zk_156 n hIm1 hc0) (fun v13 m12 hqm12 => ?_))
        obtain ⟨hIm12, hfm12, hvm12⟩ := hqm12
        have hFm12 := zfr_tr hFm1 hfm12 rfl
        have b14 : 0 ≤ a1 ∧ a1 < 8 := by omega
        refine zw_if b14 ?_
        have r15 : 0 ≤ (m12 217 a1) ∧ (m12 217 a1) ≤ 47 := zi_rd hIm12 zq_217 (zb_126 _)
        refine zw_bd (zw_mono (zk_155 n hIm12 hc0 ⟨by omega, by omega⟩ ⟨by omega, by omega⟩) (fun v17 m16 hqm16 => ?_))
        obtain ⟨hIm16, hfm16, hvm16⟩ := hqm16
        have hFm16 := zfr_tr hFm12 hfm16 rfl
        have r18 : (-2147483648) ≤ (m16 a0 2) ∧ (m16 a0 2) ≤ 2147483647 := zi_rd hIm16 hc0 zb_28_2
        have e19 : (m16 a0 2) = 0 := (Eq.trans (zfr_ap hfm16 hc0 rfl) (Eq.trans (zfr_ap hfm12 hc0 rfl) (zs_eq hmm1)))
        exact zw_some ⟨hIm16, hFm16, ⟨by omega, by omega⟩, ⟨by omega, by omega⟩⟩
      · exfalso; omega
set_option maxHeartbeats 4000000 in
theorem zk_170 (n : Nat) {a0 : Int} {m0 : zu_m} (hIm0 : zi_I m0) (hc0 : zcls a0 = 28)      : zw (zu_call (zt_T n) 170 [(40, a0)] m0) (fun v m => zi_I m ∧ zfr [(28, 3), (28, 76), (133, 0)] m0 m ∧ ((-2147483648) ≤ v ∧ v ≤ 2147483647) ∧ (0 ≤ m a0 2 ∧ m a0 2 ≤ 0)) := by
  have hFm0 : zfr [(28, 3), (28, 76), (133, 0)] m0 m0 := zfr_rf _ _
  refine zw_eq (zu_call_at (zt_T n) (zm_170 n) (zdp_170 n) _ _ _ _ _ rfl (zr_170_0 n _ _ a0 m0)) ?_
  generalize hmm1 : zu_up m0 a0 2 0 = m1
  have hIm1 := zi_up hmm1 hIm0 hc0 zb_28_2 (by omega) (by omega)
  have hFm1 := zfr_up hmm1 hFm0 hc0 rfl
  refine zw_bd (zw_mono (zk_169 n hIm1 hc0 ⟨by omega, by omega⟩) (fun v3 m2 hqm2 => ?_))
  obtain ⟨hIm2, hfm2, hvm2⟩ := hqm2
  have hFm2 := zfr_tr hFm1 hfm2 rfl
  have r4 : (-2147483648) ≤ (m2 a0 2) ∧ (m2 a0 2) ≤ 2147483647 := zi_rd hIm2 hc0 zb_28_2
  have e5 : (m2 a0 2) = 0 := (Eq.trans (zfr_ap hfm2 hc0 rfl) (zs_eq hmm1))
  exact zw_some ⟨hIm2, hFm2, ⟨by omega, by omega⟩, ⟨by omega, by omega⟩⟩
set_option maxHeartbeats 4000000 in
theorem zk_171 (n : Nat) {a0 a1 : Int} {m0 : zu_m} (hIm0 : zi_I m0) (hc0 : zcls a0 = 28) (ha1 : (-2147483648) ≤ a1 ∧ a1 ≤ 2147483647)     : zw (zu_call (zt_T n) 171 [(40, a0), (0, a1)] m0) (fun v m => zi_I m ∧ zfr [(28, 3), (28, 76), (133, 0)] m0 m ∧ ((-2147483648) ≤ v ∧ v ≤ 2147483647) ∧ (0 ≤ m a0 2 ∧ m a0 2 ≤ 0)) := by
  have hFm0 : zfr [(28, 3), (28, 76), (133, 0)] m0 m0 := zfr_rf _ _
  refine zw_eq (zu_call_at (zt_T n) (zm_171 n) (zdp_171 n) _ _ _ _ _ rfl (zr_171_0 n _ _ a0 a1 m0)) ?_
  generalize hmm1 : zu_up m0 a0 2 0 = m1
  have hIm1 := zi_up hmm1 hIm0 hc0 zb_28_2 (by omega) (by omega)
  have hFm1 := zfr_up hmm1 hFm0 hc0 rfl
  refine zw_ite (fun h2 => ?_) (fun h2 => ?_)
  · refine zw_bd (zw_mono (zk_169 n hIm1 hc0 ⟨by omega, by omega⟩) (fun v4 m3 hqm3 => ?_))
    obtain ⟨hIm3, hfm3, hvm3⟩ := hqm3
    have hFm3 := zfr_tr hFm1 hfm3 rfl
    have r5 : (-2147483648) ≤ (m3 a0 2) ∧ (m3 a0 2) ≤ 2147483647 := zi_rd hIm3 hc0 zb_28_2
    have e6 : (m3 a0 2) = 0 := (Eq.trans (zfr_ap hfm3 hc0 rfl) (zs_eq hmm1))
    exact zw_some ⟨hIm3, hFm3, ⟨by omega, by omega⟩, ⟨by omega, by omega⟩⟩
  · have r7 : (-2147483648) ≤ (m1 a0 2) ∧ (m1 a0 2) ≤ 2147483647 := zi_rd hIm1 hc0 zb_28_2
    have e8 : (m1 a0 2) = 0 := (zs_eq hmm1)
    exact zw_some ⟨hIm1, hFm1, ⟨by omega, by omega⟩, ⟨by omega, by omega⟩⟩
set_option maxHeartbeats 4000000 in
theorem zl_198 (n : Nat) {a0 a1 : Int} {m0 : zu_m} (hc0 : zcls a0 = 10)   : ∀ k : Nat, (∀ (x2 : Int) (mh : zu_m), zi_I mh → zfr [(5, 6), (5, 7), (9, 4), (9, 5), (9, 6), (9, 7), (10, 4), (10, 5), (10, 7), (10, 8), (33, 0), (34, 0), (35, 0), (36, 0), (47, 0), (48, 0)] m0 mh → (0 ≤ a1 ∧ a1 ≤ 3) → (0 ≤ x2 ∧ x2 ≤ 701) → ((mh a0 4) ≤ zop mh) → (zR_BN mh) → (zR_K10 mh) → (701 - x2) * 1 + 0 < (k : Int) → zw (zu_ex (zt_T n) 198 45 [(24, a0), (0, a1), (0, x2), (2, 0)] [] mh) (fun v m => zi_I m ∧ zfr [(5, 6), (5, 7), (9, 4), (9, 5), (9, 6), (9, 7), (10, 4), (10, 5), (10, 7), (10, 8), (33, 0), (34, 0), (35, 0), (36, 0), (47, 0), (48, 0)] m0 m ∧ zR_BN m ∧ zR_K10 m ∧ (0 ≤ v ∧ v ≤ 2))) := by
  intro k
  induction k with
  | zero => exact fun x2 mh hImh hFmh hba1 hbx2 hH0 hRBNmh hRK10mh hM => by exfalso; omega
  | succ k ih =>
    intro x2 mh hImh hFmh hba1 hbx2 hH0 hRBNmh hRK10mh hM
    refine zw_eq (zu_rega_at (zt_T n) (zm_198 n) (zdp_198 n) _ _ _ _ _ _ (zr_198_45 n _ _ a0 a1 x2 mh)) ?_
    have r1 : 0 ≤ (mh a0 4) ∧ (mh a0 4) ≤ 8 := zi_rd hImh hc0 zb_10_4
    have g2 := zop_bd hImh hc0
    refine zw_ite (fun h3 => ?_) (fun h3 => ?_)
    · exact zw_some ⟨hImh, hFmh, hRBNmh, hRK10mh, ⟨by omega, by omega⟩⟩
    · refine zw_bd (zw_mono (zk_18 n hImh zq_45) (fun v5 m4 hqm4 => ?_))
      obtain ⟨hIm4, hfm4, hvm4⟩ := hqm4
      have hFm4 := zfr_tr hFmh hfm4 rfl
      obtain ⟨hRTVm4, hvm4⟩ := hvm4
      have g6 := zop_fr (zdis_fr hfm4 rfl)
      have hRBNm4 := zR_BN_fr (zdis_fr hfm4 rfl) hRBNmh
      have hRK10m4 := zR_K10_fr (zdis_fr hfm4 rfl) hRK10mh
      have g7 := zop_bd hIm4 hc0
      have s8 := hRTVm4 45 zq_45
      have r9 : 0 ≤ (m4 a0 6) ∧ (m4 a0 6) ≤ 1 := zi_rd hIm4 hc0 zb_10_6
      refine zw_ite (fun h10 => ?_) (fun h10 => ?_)
      · refine zw_ite (fun h11 => ?_) (fun h11 => ?_)
        · exfalso; omega
        · have r12 : 0 ≤ (m4 a0 4) ∧ (m4 a0 4) ≤ 8 := zi_rd hIm4 hc0 zb_10_4
          have e13 : (m4 a0 4) = (mh a0 4) := (zfr_ap hfm4 hc0 rfl)
          refine zw_bd (zw_mono (zk_199 n hIm4 hc0 ⟨by omega, by omega⟩ (by omega) hRK10m4) (fun v15 m14 hqm14 => ?_))
          obtain ⟨hIm14, hfm14, hvm14⟩ := hqm14
          have hFm14 := zfr_tr hFm4 hfm14 rfl
          obtain ⟨hRK10m14, hvm14⟩ := hvm14
          have hRBNm14 := zR_BN_fr (zdis_fr hfm14 rfl) hRBNm4
          have hRTVm14 := zR_TV_fr (zdis_fr hfm14 rfl) hRTVm4
          have g16 := zop_bd hIm14 hc0
          have s17 := hRTVm14 45 zq_45
          refine zw_ite (fun h18 => ?_) (fun h18 => ?_)
          · have w19 := zu_w32_id (z := x2 + 1) (by omega) (by omega)
            have r20 : 0 ≤ (m14 a0 4) ∧ (m14 a0 4) ≤ 8 := zi_rd hIm14 hc0 zb_10_4
            have hM : (701 - (zu_w32 (x2 + 1))) * 1 + 0 < (k : Int) := by omega
            exact zw_le (zu_forget (zu_lr_same (zu_lr_same (zu_lr_same (zu_lr_drop zu_lr_nil))))) (ih (zu_w32 (x2 + 1)) m14 hIm14 hFm14 ⟨by omega, by omega⟩ ⟨by omega, by omega⟩ (by omega) hRBNm14 hRK10m14 hM)
          · exact zw_some ⟨hIm14, hFm14, hRBNm14, hRK10m14, ⟨by omega, by omega⟩⟩
      · have r21 : 0 ≤ (m4 a0 4) ∧ (m4 a0 4) ≤ 8 := zi_rd hIm4 hc0 zb_10_4
        have e22 : (m4 a0 4) = (mh a0 4) := (zfr_ap hfm4 hc0 rfl)
        refine zw_ite (fun h23 => ?_) (fun h23 => ?_)
        · refine zw_ite (fun h24 => ?_) (fun h24 => ?_)
          · refine zw_bd (zw_mono (zk_202 n hIm4 hc0 ⟨by omega, by omega⟩ (by omega) hRBNm4 hRK10m4 hRTVm4) (fun v26 m25 hqm25 => ?_))
            obtain ⟨hIm25, hfm25, hvm25⟩ := hqm25
            have hFm25 := zfr_tr hFm4 hfm25 rfl
            obtain ⟨hRBNm25, hRK10m25, hRTVm25, hvm25⟩ := hvm25
            have g27 := zop_bd hIm25 hc0
            have s28 := hRTVm25 45 zq_45
            refine zw_ite (fun h29 => ?_) (fun h29 => ?_)
            · have w30 := zu_w32_id (z := x2 + 1) (by omega) (by omega)
              have r31 : 0 ≤ (m25 a0 4) ∧ (m25 a0 4) ≤ 8 := zi_rd hIm25 hc0 zb_10_4
              have hM : (701 - (zu_w32 (x2 + 1))) * 1 + 0 < (k : Int) := by omega
              exact zw_le (zu_forget (zu_lr_same (zu_lr_same (zu_lr_same (zu_lr_drop zu_lr_nil))))) (ih (zu_w32 (x2 + 1)) m25 hIm25 hFm25 ⟨by omega, by omega⟩ ⟨by omega, by omega⟩ (by omega) hRBNm25 hRK10m25 hM)
            · exact zw_some ⟨hIm25, hFm25, hRBNm25, hRK10m25, ⟨by omega, by omega⟩⟩
          · exfalso; omega
        · refine zw_bd (zw_eq (zu_call_at (zt_T n) (zm_278 n) (zdp_278 n) _ _ _ _ _ rfl (zr_278_0 n _ _ 45 0 m4)) ?_)
          have r32 : 0 ≤ (m4 45 4) ∧ (m4 45 4) ≤ 5 := zi_rd hIm4 zq_45 zb_9_4
          refine zw_ite (fun h33 => ?_) (fun h33 => ?_)
          · refine zw_b (by omega) ?_
            refine zw_some ?_
            refine zw_ite (fun h34 => ?_) (fun h34 => ?_)
            · refine zw_ite (fun h35 => ?_) (fun h35 => ?_)
              · refine zw_bd (zw_mono (zk_202 n hIm4 hc0 ⟨by omega, by omega⟩ (by omega) hRBNm4 hRK10m4 hRTVm4) (fun v37 m36 hqm36 => ?_))
                obtain ⟨hIm36, hfm36, hvm36⟩ := hqm36
                have hFm36 := zfr_tr hFm4 hfm36 rfl
                obtain ⟨hRBNm36, hRK10m36, hRTVm36, hvm36⟩ := hvm36
                have g38 := zop_bd hIm36 hc0
                have s39 := hRTVm36 45 zq_45
                refine zw_ite (fun h40 => ?_) (fun h40 => ?_)
                · have w41 := zu_w32_id (z := x2 + 1) (by omega) (by omega)
                  have r42 : 0 ≤ (m36 a0 4) ∧ (m36 a0 4) ≤ 8 := zi_rd hIm36 hc0 zb_10_4
                  have hM : (701 - (zu_w32 (x2 + 1))) * 1 + 0 < (k : Int) := by omega
                  exact zw_le (zu_forget (zu_lr_same (zu_lr_same (zu_lr_same (zu_lr_drop zu_lr_nil))))) (ih (zu_w32 (x2 + 1)) m36 hIm36 hFm36 ⟨by omega, by omega⟩ ⟨by omega, by omega⟩ (by omega) hRBNm36 hRK10m36 hM)
                · exact zw_some ⟨hIm36, hFm36, hRBNm36, hRK10m36, ⟨by omega, by omega⟩⟩
              · exfalso; omega
            · exfalso; omega
          · refine zw_ite (fun h43 => ?_) (fun h43 => ?_)
            · refine zw_b (by omega) ?_
              refine zw_some ?_
              refine zw_ite (fun h44 => ?_) (fun h44 => ?_)
              · refine zw_ite (fun h45 => ?_) (fun h45 => ?_)
                · refine zw_bd (zw_mono (zk_202 n hIm4 hc0 ⟨by omega, by omega⟩ (by omega) hRBNm4 hRK10m4 hRTVm4) (fun v47 m46 hqm46 => ?_))
                  obtain ⟨hIm46, hfm46, hvm46⟩ := hqm46
                  have hFm46 := zfr_tr hFm4 hfm46 rfl
                  obtain ⟨hRBNm46, hRK10m46, hRTVm46, hvm46⟩ := hvm46
                  have g48 := zop_bd hIm46 hc0
                  have s49 := hRTVm46 45 zq_45
                  refine zw_ite (fun h50 => ?_) (fun h50 => ?_)
                  · have w51 := zu_w32_id (z := x2 + 1) (by omega) (by omega)
                    have r52 : 0 ≤ (m46 a0 4) ∧ (m46 a0 4) ≤ 8 := zi_rd hIm46 hc0 zb_10_4
                    have hM : (701 - (zu_w32 (x2 + 1))) * 1 + 0 < (k : Int) := by omega
                    exact zw_le (zu_forget (zu_lr_same (zu_lr_same (zu_lr_same (zu_lr_drop zu_lr_nil))))) (ih (zu_w32 (x2 + 1)) m46 hIm46 hFm46 ⟨by omega, by omega⟩ ⟨by omega, by omega⟩ (by omega) hRBNm46 hRK10m46 hM)
                  · exact zw_some ⟨hIm46, hFm46, hRBNm46, hRK10m46, ⟨by omega, by omega⟩⟩
                · exfalso; omega
              · exfalso; omega
            · refine zw_b (by omega) ?_
              refine zw_some ?_
              refine zw_ite (fun h53 => ?_) (fun h53 => ?_)
              · exfalso; omega
              · refine zw_bd (zw_mono (zk_206 n hIm4 hc0 ⟨by omega, by omega⟩ (by omega) hRBNm4 hRK10m4) (fun v55 m54 hqm54 => ?_))
                obtain ⟨hIm54, hfm54, hvm54⟩ := hqm54
                have hFm54 := zfr_tr hFm4 hfm54 rfl
                obtain ⟨hRBNm54, hRK10m54, hvm54⟩ := hvm54
                have hRTVm54 := zR_TV_fr (zdis_fr hfm54 rfl) hRTVm4
                have g56 := zop_bd hIm54 hc0
                have s57 := hRTVm54 45 zq_45
                have r58 : 0 ≤ (m54 10 6) ∧ (m54 10 6) ≤ 64 := zi_rd hIm54 zq_10 zb_5_6
                have b59 : 0 ≤ a1 ∧ a1 < 4 := by omega
                refine zw_if b59 ?_
                generalize hmm60 : zu_up m54 (10 + 4) a1 (m54 10 6) = m60
                have hIm60 := zi_up hmm60 hIm54 (zc_5_3 zq_10) (zb_36 _) (by omega) (by omega)
                have hFm60 := zfr_up hmm60 hFm54 (zc_5_3 zq_10) rfl
                have g61 := zop_fr (zdis_fr (zfr_up hmm60 (zfr_rf [(36, 0)] _) (zc_5_3 zq_10) rfl) rfl)
                have hRBNm60 := zR_BN_fr (zdis_fr (zfr_up hmm60 (zfr_rf [(36, 0)] _) (zc_5_3 zq_10) rfl) rfl) hRBNm54
                have hRK10m60 := zR_K10_fr (zdis_fr (zfr_up hmm60 (zfr_rf [(36, 0)] _) (zc_5_3 zq_10) rfl) rfl) hRK10m54
                have hRTVm60 := zR_TV_fr (zdis_fr (zfr_up hmm60 (zfr_rf [(36, 0)] _) (zc_5_3 zq_10) rfl) rfl) hRTVm54
                exact zw_some ⟨hIm60, hFm60, hRBNm60, hRK10m60, ⟨by omega, by omega⟩⟩
set_option maxHeartbeats 4000000 in
theorem zk_198 (n : Nat) {a0 a1 : Int} {m0 : zu_m} (hIm0 : zi_I m0) (hc0 : zcls a0 = 10) (ha1 : 0 ≤ a1 ∧ a1 ≤ 3)    (hRBNm0 : zR_BN m0) (hRK10m0 : zR_K10 m0) : zw (zu_call (zt_T n) 198 [(24, a0), (0, a1)] m0) (fun v m => zi_I m ∧ zfr [(5, 6), (5, 7), (9, 4), (9, 5), (9, 6), (9, 7), (10, 4), (10, 5), (10, 7), (10, 8), (33, 0), (34, 0), (35, 0), (36, 0), (47, 0), (48, 0)] m0 m ∧ zR_BN m ∧ zR_K10 m ∧ (0 ≤ v ∧ v ≤ 2)) := by
  have hFm0 : zfr [(5, 6), (5, 7), (9, 4), (9, 5), (9, 6), (9, 7), (10, 4), (10, 5), (10, 7), (10, 8), (33, 0), (34, 0), (35, 0), (36, 0), (47, 0), (48, 0)] m0 m0 := zfr_rf _ _
  have g62 := zop_bd hIm0 hc0
  refine zw_eq (zu_call_at (zt_T n) (zm_198 n) (zdp_198 n) _ _ _ _ _ rfl (zr_198_0 n _ _ a0 a1 m0)) ?_
  have r63 : 0 ≤ (m0 10 6) ∧ (m0 10 6) ≤ 64 := zi_rd hIm0 zq_10 zb_5_6
  have b64 : 0 ≤ a1 ∧ a1 < 4 := by omega
  refine zw_if b64 ?_
  generalize hmm65 : zu_up m0 (10 + 3) a1 (m0 10 6) = m65
  have hIm65 := zi_up hmm65 hIm0 (zc_5_2 zq_10) (zb_35 _) (by omega) (by omega)
  have hFm65 := zfr_up hmm65 hFm0 (zc_5_2 zq_10) rfl
  have g66 := zop_fr (zdis_fr (zfr_up hmm65 (zfr_rf [(35, 0)] _) (zc_5_2 zq_10) rfl) rfl)
  have hRBNm65 := zR_BN_fr (zdis_fr (zfr_up hmm65 (zfr_rf [(35, 0)] _) (zc_5_2 zq_10) rfl) rfl) hRBNm0
  have hRK10m65 := zR_K10_fr (zdis_fr (zfr_up hmm65 (zfr_rf [(35, 0)] _) (zc_5_2 zq_10) rfl) rfl) hRK10m0
  generalize hmm67 : zu_up m65 a0 3 0 = m67
  have hIm67 := zi_up hmm67 hIm65 hc0 zb_10_3 (by omega) (by omega)
  have hFm67 := zfr_up hmm67 hFm65 hc0 rfl
  have hRBNm67 := zR_BN_fr (zdis_fr (zfr_up hmm67 (zfr_rf [(10, 4)] _) hc0 rfl) rfl) hRBNm65
  have hRK10m67 := zR_K10_fr (zdis_fr (zfr_up hmm67 (zfr_rf [(10, 4)] _) hc0 rfl) rfl) hRK10m65
  have g68 := zop_zero hmm67 hc0
  generalize hmm69 : zu_up m67 a0 4 0 = m69
  have hIm69 := zi_up hmm69 hIm67 hc0 zb_10_4 (by omega) (by omega)
  have hFm69 := zfr_up hmm69 hFm67 hc0 rfl
  have g70 := zop_fr (zdis_fr (zfr_up hmm69 (zfr_rf [(10, 5)] _) hc0 rfl) rfl)
  have hRBNm69 := zR_BN_fr (zdis_fr (zfr_up hmm69 (zfr_rf [(10, 5)] _) hc0 rfl) rfl) hRBNm67
  have hRK10m69 := zR_K10_fr (zdis_fr (zfr_up hmm69 (zfr_rf [(10, 5)] _) hc0 rfl) rfl) hRK10m67
  refine zw_b (by omega) ?_
  have b71 : 0 ≤ (0 : Int) ∧ (0 : Int) < 9 := by omega
  refine zw_if b71 ?_
  generalize hmm72 : zu_up m69 49 0 0 = m72
  have hIm72 := zi_up hmm72 hIm69 zq_49 (zb_48 _) (by omega) (by omega)
  have hFm72 := zfr_up hmm72 hFm69 zq_49 rfl
  have g73 := zop_fr (zdis_fr (zfr_up hmm72 (zfr_rf [(48, 0)] _) zq_49 rfl) rfl)
  have hRBNm72 := zR_BN_fr (zdis_fr (zfr_up hmm72 (zfr_rf [(48, 0)] _) zq_49 rfl) rfl) hRBNm69
  have hRK10m72 := zR_K10_fr (zdis_fr (zfr_up hmm72 (zfr_rf [(48, 0)] _) zq_49 rfl) rfl) hRK10m69
  refine zw_b (by omega) ?_
  generalize hmm74 : zu_up m72 a0 6 1 = m74
  have hIm74 := zi_up hmm74 hIm72 hc0 zb_10_6 (by omega) (by omega)
  have hFm74 := zfr_up hmm74 hFm72 hc0 rfl
  have g75 := zop_fr (zdis_fr (zfr_up hmm74 (zfr_rf [(10, 7)] _) hc0 rfl) rfl)
  have hRBNm74 := zR_BN_fr (zdis_fr (zfr_up hmm74 (zfr_rf [(10, 7)] _) hc0 rfl) rfl) hRBNm72
  have hRK10m74 := zR_K10_fr (zdis_fr (zfr_up hmm74 (zfr_rf [(10, 7)] _) hc0 rfl) rfl) hRK10m72
  refine zw_b (by omega) ?_
  generalize hmm76 : zu_up m74 a0 7 1 = m76
  have hIm76 := zi_up hmm76 hIm74 hc0 zb_10_7 (by omega) (by omega)
  have hFm76 := zfr_up hmm76 hFm74 hc0 rfl
  have g77 := zop_fr (zdis_fr (zfr_up hmm76 (zfr_rf [(10, 8)] _) hc0 rfl) rfl)
  have hRBNm76 := zR_BN_fr (zdis_fr (zfr_up hmm76 (zfr_rf [(10, 8)] _) hc0 rfl) rfl) hRBNm74
  have hRK10m76 := zR_K10_fr (zdis_fr (zfr_up hmm76 (zfr_rf [(10, 8)] _) hc0 rfl) rfl) hRK10m74
  have r78 : 0 ≤ (m76 a0 4) ∧ (m76 a0 4) ≤ 8 := zi_rd hIm76 hc0 zb_10_4
  have e79 : (m76 a0 4) = 0 := (Eq.trans (zs_ne hmm76 (Or.inr (by decide))) (Eq.trans (zs_ne hmm74 (Or.inr (by decide))) (Eq.trans (zs_ne hmm72 (Or.inl (zc_ne hc0 zq_49 (by decide)))) (zs_eq hmm69))))
  have hM : (701 - 0) * 1 + 0 < ((702 : Nat) : Int) := by omega
  exact (zl_198 n (m0 := m0) hc0 702) 0 m76 hIm76 hFm76 ⟨by omega, by omega⟩ ⟨by omega, by omega⟩ (by omega) hRBNm76 hRK10m76 hM
set_option maxHeartbeats 4000000 in
theorem zl_216_16 (n : Nat) {a0 a1 a2 : Int} {m0 : zu_m} (hc0 : zcls a0 = 16)   : ∀ k : Nat, (∀ (x3 x4 x5 x6 : Int) (mh : zu_m), zi_I mh → zfr [(16, 10), (17, 4), (18, 6), (18, 7), (18, 8), (56, 0), (59, 1), (59, 2), (59, 3), (59, 4), (59, 5), (59, 6), (59, 7), (67, 0), (68, 0)] m0 mh → (0 ≤ a1 ∧ a1 ≤ 3) → (0 ≤ a2 ∧ a2 ≤ 0) → (zcls x3 = 18) → (0 ≤ x4 ∧ x4 ≤ 47) → ((-2147483648) ≤ x5 ∧ x5 ≤ 2147483647) → (0 ≤ x6 ∧ x6 ≤ 16) → (zR_K54 mh) → (16 - x6) * 1 + 0 < (k : Int) → zw (zu_ex (zt_T n) 216 22 [(27, a0), (0, a1), (0, a2), (21, x3), (0, x4), (0, x5), (0, x6), (2, 0), (2, 0)] [] mh) (fun v m => zi_I m ∧ zfr [(16, 10), (17, 4), (18, 6), (18, 7), (18, 8), (56, 0), (59, 1), (59, 2), (59, 3), (59, 4), (59, 5), (59, 6), (59, 7), (67, 0), (68, 0)] m0 m ∧ zR_K54 m ∧ True)) := by
  intro k
  induction k with
  | zero => exact fun x3 x4 x5 x6 mh hImh hFmh hba1 hba2 hx3 hbx4 hbx5 hbx6 hRK54mh hM => by exfalso; omega
  | succ k ih =>
    intro x3 x4 x5 x6 mh hImh hFmh hba1 hba2 hx3 hbx4 hbx5 hbx6 hRK54mh hM
    refine zw_eq (zu_rega_at (zt_T n) (zm_216 n) (zdp_216 n) _ _ _ _ _ _ (zr_216_22 n _ _ a0 a1 a2 x3 x4 x5 x6 mh)) ?_
    have r1 : 0 ≤ (mh a0 2) ∧ (mh a0 2) ≤ 16 := zi_rd hImh hc0 zb_16_2
    refine zw_ite (fun h2 => ?_) (fun h2 => ?_)
    · refine zw_ite (fun h3 => ?_) (fun h3 => ?_)
      · generalize hmm4 : zu_up mh x3 7 (-1) = m4
        have hIm4 := zi_up hmm4 hImh hx3 zb_18_7 (by omega) (by omega)
        have hFm4 := zfr_up hmm4 hFmh hx3 rfl
        have hRK54m4 := zR_K54_fr (zdis_fr (zfr_up hmm4 (zfr_rf [(18, 8)] _) hx3 rfl) rfl) hRK54mh
        have r5 : (-2147483648) ≤ (m4 x3 5) ∧ (m4 x3 5) ≤ 2147483647 := zi_rd hIm4 hx3 zb_18_5
        have w6 := zu_w32_rg ((m4 x3 5) + 1)
        generalize hmm7 : zu_up m4 x3 5 (zu_w32 ((m4 x3 5) + 1)) = m7
        have hIm7 := zi_up hmm7 hIm4 hx3 zb_18_5 (by omega) (by omega)
        have hFm7 := zfr_up hmm7 hFm4 hx3 rfl
        have hRK54m7 := zR_K54_fr (zdis_fr (zfr_up hmm7 (zfr_rf [(18, 6)] _) hx3 rfl) rfl) hRK54m4
        refine zw_b (by omega) ?_
        have b8 : 0 ≤ x4 ∧ x4 < 48 := by omega
        refine zw_if b8 ?_
        generalize hmm9 : zu_up m7 (a0 + 3) x4 1 = m9
        have hIm9 := zi_up hmm9 hIm7 (zc_16_5 hc0) (zb_67 _) (by omega) (by omega)
        have hFm9 := zfr_up hmm9 hFm7 (zc_16_5 hc0) rfl
        have hRK54m9 := zR_K54_fr (zdis_fr (zfr_up hmm9 (zfr_rf [(67, 0)] _) (zc_16_5 hc0) rfl) rfl) hRK54m7
        have b10 : 0 ≤ x4 ∧ x4 < 48 := by omega
        refine zw_if b10 ?_
        have r11 : 0 ≤ (m9 (a0 + 4) x4) ∧ (m9 (a0 + 4) x4) ≤ 999000 := zi_rd hIm9 (zc_16_6 hc0) (zb_68 _)
        refine zw_bd (zw_mono (zk_254 n hIm9 zq_50 ⟨by omega, by omega⟩ ⟨by omega, by omega⟩ ⟨by omega, by omega⟩) (fun v13 m12 hqm12 => ?_))
        obtain ⟨hIm12, hfm12, hvm12⟩ := hqm12
        have hFm12 := zfr_tr hFm9 hfm12 rfl
        have hRK54m12 := zR_K54_fr (zdis_fr hfm12 rfl) hRK54m9
        have b14 : 0 ≤ x4 ∧ x4 < 48 := by omega
        refine zw_if b14 ?_
        generalize hmm15 : zu_up m12 (a0 + 4) x4 v13 = m15
        have hIm15 := zi_up hmm15 hIm12 (zc_16_6 hc0) (zb_68 _) (by omega) (by omega)
        have hFm15 := zfr_up hmm15 hFm12 (zc_16_6 hc0) rfl
        have hRK54m15 := zR_K54_fr (zdis_fr (zfr_up hmm15 (zfr_rf [(68, 0)] _) (zc_16_6 hc0) rfl) rfl) hRK54m12
        exact zw_some ⟨hIm15, hFm15, hRK54m15, trivial⟩
      · exfalso; omega
    · refine zw_ite (fun h16 => ?_) (fun h16 => ?_)
      · have b17 : 0 ≤ x6 ∧ x6 < 16 := by omega
        refine zw_if b17 ?_
        have r18 : (-3) ≤ (mh ((a0 + 1) + 5 + x6) 3) ∧ (mh ((a0 + 1) + 5 + x6) 3) ≤ 3 := zi_rd hImh (zc_65_e (zc_16_1 hc0) b17) zb_17_3
        refine zw_ite (fun h19 => ?_) (fun h19 => ?_)
        · have w20 := zu_w32_id (z := x6 + 1) (by omega) (by omega)
          have hM : (16 - (zu_w32 (x6 + 1))) * 1 + 0 < (k : Int) := by omega
          exact zw_le (zu_forget (zu_lr_same (zu_lr_same (zu_lr_same (zu_lr_same (zu_lr_same (zu_lr_same (zu_lr_same (zu_lr_drop (zu_lr_same zu_lr_nil)))))))))) (ih x3 x4 x5 (zu_w32 (x6 + 1)) mh hImh hFmh ⟨by omega, by omega⟩ ⟨by omega, by omega⟩ hx3 ⟨by omega, by omega⟩ ⟨by omega, by omega⟩ ⟨by omega, by omega⟩ hRK54mh hM)
        · have r21 : 0 ≤ (mh ((a0 + 1) + 5 + x6) 0) ∧ (mh ((a0 + 1) + 5 + x6) 0) ≤ 47 := zi_rd hImh (zc_65_e (zc_16_1 hc0) b17) zb_17_0
          refine zw_ite (fun h22 => ?_) (fun h22 => ?_)
          · have w23 := zu_w32_id (z := x6 + 1) (by omega) (by omega)
            have hM : (16 - (zu_w32 (x6 + 1))) * 1 + 0 < (k : Int) := by omega
            exact zw_le (zu_forget (zu_lr_same (zu_lr_same (zu_lr_same (zu_lr_same (zu_lr_same (zu_lr_same (zu_lr_same (zu_lr_drop (zu_lr_same zu_lr_nil)))))))))) (ih x3 x4 x5 (zu_w32 (x6 + 1)) mh hImh hFmh ⟨by omega, by omega⟩ ⟨by omega, by omega⟩ hx3 ⟨by omega, by omega⟩ ⟨by omega, by omega⟩ ⟨by omega, by omega⟩ hRK54mh hM)
          · have r24 : 0 ≤ (mh ((a0 + 1) + 5 + x6) 1) ∧ (mh ((a0 + 1) + 5 + x6) 1) ≤ 3 := zi_rd hImh (zc_65_e (zc_16_1 hc0) b17) zb_17_1
            refine zw_bd (zw_eq (zu_call_at (zt_T n) (zm_217 n) (zdp_217 n) _ _ _ _ _ rfl (zr_217_0 n _ _ a0 a1 (mh ((a0 + 1) + 5 + x6) 1) mh)) ?_)
            have r25 : 0 ≤ (mh a0 10) ∧ (mh a0 10) ≤ 3 := zi_rd hImh hc0 zb_16_10
            refine zw_ite (fun h26 => ?_) (fun h26 => ?_)
            · refine zw_b (by omega) ?_
              refine zw_some ?_
              refine zw_ite (fun h27 => ?_) (fun h27 => ?_)
              · exfalso; omega
              · refine zw_ite (fun h28 => ?_) (fun h28 => ?_)
                · refine zw_bd (zw_mono (zk_215_16 n hImh hc0) (fun v30 m29 hqm29 => ?_))
                  obtain ⟨hIm29, hfm29, hvm29⟩ := hqm29
                  have hFm29 := zfr_tr hFmh hfm29 rfl
                  have hRK54m29 := zR_K54_fr (zdis_fr hfm29 rfl) hRK54mh
                  refine zw_nif (by omega) ?_
                  have d31 := ztmod_b2 (x := v30) (y := 100) (by omega)
                  have r32 : (-2147483648) ≤ (m29 x3 6) ∧ (m29 x3 6) ≤ 2147483647 := zi_rd hIm29 hx3 zb_18_6
                  refine zw_bd (zw_mono (zk_224_16 n hIm29 hc0 ⟨by omega, by omega⟩ ⟨by omega, by omega⟩ ⟨by omega, by omega⟩) (fun v34 m33 hqm33 => ?_))
                  obtain ⟨hIm33, hfm33, hvm33⟩ := hqm33
                  have hFm33 := zfr_tr hFm29 hfm33 rfl
                  have hRK54m33 := zR_K54_fr (zdis_fr hfm33 rfl) hRK54m29
                  refine zw_bd (zw_mono (zk_250 n hIm33 zq_50 hRK54m33) (fun v36 m35 hqm35 => ?_))
                  obtain ⟨hIm35, hfm35, hvm35⟩ := hqm35
                  have hFm35 := zfr_tr hFm33 hfm35 rfl
                  obtain ⟨hRK54m35, hvm35⟩ := hvm35
                  refine zw_ite (fun h37 => ?_) (fun h37 => ?_)
                  · have w38 := zu_w32_id (z := x6 + 1) (by omega) (by omega)
                    have hM : (16 - (zu_w32 (x6 + 1))) * 1 + 0 < (k : Int) := by omega
                    exact zw_le (zu_forget (zu_lr_same (zu_lr_same (zu_lr_same (zu_lr_same (zu_lr_same (zu_lr_same (zu_lr_same (zu_lr_drop (zu_lr_drop zu_lr_nil)))))))))) (ih x3 x4 x5 (zu_w32 (x6 + 1)) m35 hIm35 hFm35 ⟨by omega, by omega⟩ ⟨by omega, by omega⟩ hx3 ⟨by omega, by omega⟩ ⟨by omega, by omega⟩ ⟨by omega, by omega⟩ hRK54m35 hM)
                  · generalize hmm39 : zu_up m35 ((a0 + 1) + 5 + x6) 3 a1 = m39
                    have hIm39 := zi_up hmm39 hIm35 (zc_65_e (zc_16_1 hc0) b17) zb_17_3 (by omega) (by omega)
                    have hFm39 := zfr_up hmm39 hFm35 (zc_65_e (zc_16_1 hc0) b17) rfl
                    have hRK54m39 := zR_K54_fr (zdis_fr (zfr_up hmm39 (zfr_rf [(17, 4)] _) (zc_65_e (zc_16_1 hc0) b17) rfl) rfl) hRK54m35
                    have r40 : (-2147483648) ≤ (m39 x3 6) ∧ (m39 x3 6) ≤ 2147483647 := zi_rd hIm39 hx3 zb_18_6
                    have e41 : (m39 x3 6) = (m29 x3 6) := (Eq.trans (zs_ne hmm39 (Or.inl (zc_ne hx3 (zc_65_e (zc_16_1 hc0) b17) (by decide)))) (Eq.trans (zfr_ap hfm35 hx3 rfl) (zfr_ap hfm33 hx3 rfl)))
                    have w42 := zu_w32_rg ((m39 x3 6) + 1)
                    generalize hmm43 : zu_up m39 x3 6 (zu_w32 ((m39 x3 6) + 1)) = m43
                    have hIm43 := zi_up hmm43 hIm39 hx3 zb_18_6 (by omega) (by omega)
                    have hFm43 := zfr_up hmm43 hFm39 hx3 rfl
                    have hRK54m43 := zR_K54_fr (zdis_fr (zfr_up hmm43 (zfr_rf [(18, 7)] _) hx3 rfl) rfl) hRK54m39
                    have w44 := zu_w32_id (z := x6 + 1) (by omega) (by omega)
                    have hM : (16 - (zu_w32 (x6 + 1))) * 1 + 0 < (k : Int) := by omega
                    exact zw_le (zu_forget (zu_lr_same (zu_lr_same (zu_lr_same (zu_lr_same (zu_lr_same (zu_lr_same (zu_lr_same (zu_lr_drop (zu_lr_drop zu_lr_nil)))))))))) (ih x3 x4 x5 (zu_w32 (x6 + 1)) m43 hIm43 hFm43 ⟨by omega, by omega⟩ ⟨by omega, by omega⟩ hx3 ⟨by omega, by omega⟩ ⟨by omega, by omega⟩ ⟨by omega, by omega⟩ hRK54m43 hM)
                · exfalso; omega
            · refine zw_nif (by omega) ?_
              have d45 : Int.tmod a1 4 = a1 % 4 := Int.tmod_eq_emod_of_nonneg (by omega)
              refine zw_ite (fun h46 => ?_) (fun h46 => ?_)
              · refine zw_b (by omega) ?_
                refine zw_some ?_
                refine zw_ite (fun h47 => ?_) (fun h47 => ?_)
                · have w48 := zu_w32_id (z := x6 + 1) (by omega) (by omega)
                  have hM : (16 - (zu_w32 (x6 + 1))) * 1 + 0 < (k : Int) := by omega
                  exact zw_le (zu_forget (zu_lr_same (zu_lr_same (zu_lr_same (zu_lr_same (zu_lr_same (zu_lr_same (zu_lr_same (zu_lr_drop (zu_lr_same zu_lr_nil)))))))))) (ih x3 x4 x5 (zu_w32 (x6 + 1)) mh hImh hFmh ⟨by omega, by omega⟩ ⟨by omega, by omega⟩ hx3 ⟨by omega, by omega⟩ ⟨by omega, by omega⟩ ⟨by omega, by omega⟩ hRK54mh hM)
                · exfalso; omega
              · refine zw_b (by omega) ?_
                refine zw_some ?_
                refine zw_ite (fun h49 => ?_) (fun h49 => ?_)
                · exfalso; omega
                · refine zw_ite (fun h50 => ?_) (fun h50 => ?_)
                  · refine zw_bd (zw_mono (zk_215_16 n hImh hc0) (fun v52 m51 hqm51 => ?_))
                    obtain ⟨hIm51, hfm51, hvm51⟩ := hqm51
                    have hFm51 := zfr_tr hFmh hfm51 rfl
                    have hRK54m51 := zR_K54_fr (zdis_fr hfm51 rfl) hRK54mh
                    refine zw_nif (by omega) ?_
                    have d53 := ztmod_b2 (x := v52) (y := 100) (by omega)
                    have r54 : (-2147483648) ≤ (m51 x3 6) ∧ (m51 x3 6) ≤ 2147483647 := zi_rd hIm51 hx3 zb_18_6
                    refine zw_bd (zw_mono (zk_224_16 n hIm51 hc0 ⟨by omega, by omega⟩ ⟨by omega, by omega⟩ ⟨by omega, by omega⟩) (fun v56 m55 hqm55 => ?_))
                    obtain ⟨hIm55, hfm55, hvm55⟩ := hqm55
                    have hFm55 := zfr_tr hFm51 hfm55 rfl
                    have hRK54m55 := zR_K54_fr (zdis_fr hfm55 rfl) hRK54m51
                    refine zw_bd (zw_mono (zk_250 n hIm55 zq_50 hRK54m55) (fun v58 m57 hqm57 => ?_))
                    obtain ⟨hIm57, hfm57, hvm57⟩ := hqm57
                    have hFm57 := zfr_tr hFm55 hfm57 rfl
                    obtain ⟨hRK54m57, hvm57⟩ := hvm57
                    refine zw_ite (fun h59 => ?_) (fun h59 => ?_)
                    · have w60 := zu_w32_id (z := x6 + 1) (by omega) (by omega)
                      have hM : (16 - (zu_w32 (x6 + 1))) * 1 + 0 < (k : Int) := by omega
                      exact zw_le (zu_forget (zu_lr_same (zu_lr_same (zu_lr_same (zu_lr_same (zu_lr_same (zu_lr_same (zu_lr_same (zu_lr_drop (zu_lr_drop zu_lr_nil)))))))))) (ih x3 x4 x5 (zu_w32 (x6 + 1)) m57 hIm57 hFm57 ⟨by omega, by omega⟩ ⟨by omega, by omega⟩ hx3 ⟨by omega, by omega⟩ ⟨by omega, by omega⟩ ⟨by omega, by omega⟩ hRK54m57 hM)
                    · generalize hmm61 : zu_up m57 ((a0 + 1) + 5 + x6) 3 a1 = m61
                      have hIm61 := zi_up hmm61 hIm57 (zc_65_e (zc_16_1 hc0) b17) zb_17_3 (by omega) (by omega)
                      have hFm61 := zfr_up hmm61 hFm57 (zc_65_e (zc_16_1 hc0) b17) rfl
                      have hRK54m61 := zR_K54_fr (zdis_fr (zfr_up hmm61 (zfr_rf [(17, 4)] _) (zc_65_e (zc_16_1 hc0) b17) rfl) rfl) hRK54m57
                      have r62 : (-2147483648) ≤ (m61 x3 6) ∧ (m61 x3 6) ≤ 2147483647 := zi_rd hIm61 hx3 zb_18_6
                      have e63 : (m61 x3 6) = (m51 x3 6) := (Eq.trans (zs_ne hmm61 (Or.inl (zc_ne hx3 (zc_65_e (zc_16_1 hc0) b17) (by decide)))) (Eq.trans (zfr_ap hfm57 hx3 rfl) (zfr_ap hfm55 hx3 rfl)))
                      have w64 := zu_w32_rg ((m61 x3 6) + 1)
                      generalize hmm65 : zu_up m61 x3 6 (zu_w32 ((m61 x3 6) + 1)) = m65
                      have hIm65 := zi_up hmm65 hIm61 hx3 zb_18_6 (by omega) (by omega)
                      have hFm65 := zfr_up hmm65 hFm61 hx3 rfl
                      have hRK54m65 := zR_K54_fr (zdis_fr (zfr_up hmm65 (zfr_rf [(18, 7)] _) hx3 rfl) rfl) hRK54m61
                      have w66 := zu_w32_id (z := x6 + 1) (by omega) (by omega)
                      have hM : (16 - (zu_w32 (x6 + 1))) * 1 + 0 < (k : Int) := by omega
                      exact zw_le (zu_forget (zu_lr_same (zu_lr_same (zu_lr_same (zu_lr_same (zu_lr_same (zu_lr_same (zu_lr_same (zu_lr_drop (zu_lr_drop zu_lr_nil)))))))))) (ih x3 x4 x5 (zu_w32 (x6 + 1)) m65 hIm65 hFm65 ⟨by omega, by omega⟩ ⟨by omega, by omega⟩ hx3 ⟨by omega, by omega⟩ ⟨by omega, by omega⟩ ⟨by omega, by omega⟩ hRK54m65 hM)
                  · exfalso; omega
      · exfalso; omega
set_option maxHeartbeats 4000000 in
theorem zk_216_16 (n : Nat) {a0 a1 a2 : Int} {m0 : zu_m} (hIm0 : zi_I m0) (hc0 : zcls a0 = 16) (ha1 : 0 ≤ a1 ∧ a1 ≤ 3) (ha2 : 0 ≤ a2 ∧ a2 ≤ 0)    (hRK54m0 : zR_K54 m0) : zw (zu_call (zt_T n) 216 [(27, a0), (0, a1), (0, a2)] m0) (fun v m => zi_I m ∧ zfr [(16, 10), (17, 4), (18, 6), (18, 7), (18, 8), (56, 0), (59, 1), (59, 2), (59, 3), (59, 4), (59, 5), (59, 6), (59, 7), (67, 0), (68, 0)] m0 m ∧ zR_K54 m ∧ True) := by
  have hFm0 : zfr [(16, 10), (17, 4), (18, 6), (18, 7), (18, 8), (56, 0), (59, 1), (59, 2), (59, 3), (59, 4), (59, 5), (59, 6), (59, 7), (67, 0), (68, 0)] m0 m0 := zfr_rf _ _
  refine zw_eq (zu_call_at (zt_T n) (zm_216 n) (zdp_216 n) _ _ _ _ _ rfl (zr_216_0 n _ _ a0 a1 a2 m0)) ?_
  have b67 : 0 ≤ a1 ∧ a1 < 4 := by omega
  refine zw_if b67 ?_
  have r68 : 0 ≤ (m0 ((a0 + 2) + 20 + a1) 1) ∧ (m0 ((a0 + 2) + 20 + a1) 1) ≤ 47 := zi_rd hIm0 (zc_66_e (zc_16_3 hc0) b67) zb_18_1
  have r69 : (-2147483648) ≤ (m0 ((a0 + 2) + 20 + a1) 6) ∧ (m0 ((a0 + 2) + 20 + a1) 6) ≤ 2147483647 := zi_rd hIm0 (zc_66_e (zc_16_3 hc0) b67) zb_18_6
  have hM : (16 - 0) * 1 + 0 < ((17 : Nat) : Int) := by omega
  exact (zl_216_16 n (m0 := m0) hc0 17) ((a0 + 2) + 20 + a1) (m0 ((a0 + 2) + 20 + a1) 1) (m0 ((a0 + 2) + 20 + a1) 6) 0 m0 hIm0 hFm0 ⟨by omega, by omega⟩ ⟨by omega, by omega⟩ (zc_66_e (zc_16_3 hc0) b67) ⟨by omega, by omega⟩ ⟨by omega, by omega⟩ ⟨by omega, by omega⟩ hRK54m0 hM
set_option maxHeartbeats 4000000 in
theorem zl_216_25 (n : Nat) {a0 a1 a2 : Int} {m0 : zu_m} (hc0 : zcls a0 = 25)   : ∀ k : Nat, (∀ (x3 x4 x5 x6 : Int) (mh : zu_m), zi_I mh → zfr [(25, 10), (26, 4), (27, 6), (27, 7), (27, 8), (56, 0), (59, 1), (59, 2), (59, 3), (59, 4), (59, 5), (59, 6), (59, 7), (97, 0), (98, 0)] m0 mh → (0 ≤ a1 ∧ a1 ≤ 3) → (0 ≤ a2 ∧ a2 ≤ 1) → (zcls x3 = 27) → (0 ≤ x4 ∧ x4 ≤ 47) → ((-2147483648) ≤ x5 ∧ x5 ≤ 2147483647) → (0 ≤ x6 ∧ x6 ≤ 16) → (zR_K54 mh) → (16 - x6) * 1 + 0 < (k : Int) → zw (zu_ex (zt_T n) 216 22 [(27, a0), (0, a1), (0, a2), (21, x3), (0, x4), (0, x5), (0, x6), (2, 0), (2, 0)] [] mh) (fun v m => zi_I m ∧ zfr [(25, 10), (26, 4), (27, 6), (27, 7), (27, 8), (56, 0), (59, 1), (59, 2), (59, 3), (59, 4), (59, 5), (59, 6), (59, 7), (97, 0), (98, 0)] m0 m ∧ zR_K54 m ∧ True)) := by
  intro k
  induction k with
  | zero => exact fun x3 x4 x5 x6 mh hImh hFmh hba1 hba2 hx3 hbx4 hbx5 hbx6 hRK54mh hM => by exfalso; omega
  | succ k ih =>
    intro x3 x4 x5 x6 mh hImh hFmh hba1 hba2 hx3 hbx4 hbx5 hbx6 hRK54mh hM
    refine zw_eq (zu_rega_at (zt_T n) (zm_216 n) (zdp_216 n) _ _ _ _ _ _ (zr_216_22 n _ _ a0 a1 a2 x3 x4 x5 x6 mh)) ?_
    have r1 : 0 ≤ (mh a0 2) ∧ (mh a0 2) ≤ 16 := zi_rd hImh hc0 zb_25_2
    refine zw_ite (fun h2 => ?_) (fun h2 => ?_)
    · refine zw_ite (fun h3 => ?_) (fun h3 => ?_)
      · generalize hmm4 : zu_up mh x3 7 (-1) = m4
        have hIm4 := zi_up hmm4 hImh hx3 zb_27_7 (by omega) (by omega)
        have hFm4 := zfr_up hmm4 hFmh hx3 rfl
        have hRK54m4 := zR_K54_fr (zdis_fr (zfr_up hmm4 (zfr_rf [(27, 8)] _) hx3 rfl) rfl) hRK54mh
        have r5 : (-2147483648) ≤ (m4 x3 5) ∧ (m4 x3 5) ≤ 2147483647 := zi_rd hIm4 hx3 zb_27_5
        have w6 := zu_w32_rg ((m4 x3 5) + 1)
        generalize hmm7 : zu_up m4 x3 5 (zu_w32 ((m4 x3 5) + 1)) = m7
        have hIm7 := zi_up hmm7 hIm4 hx3 zb_27_5 (by omega) (by omega)
        have hFm7 := zfr_up hmm7 hFm4 hx3 rfl
        have hRK54m7 := zR_K54_fr (zdis_fr (zfr_up hmm7 (zfr_rf [(27, 6)] _) hx3 rfl) rfl) hRK54m4
        refine zw_b (by omega) ?_
        have b8 : 0 ≤ x4 ∧ x4 < 48 := by omega
        refine zw_if b8 ?_
        generalize hmm9 : zu_up m7 (a0 + 3) x4 1 = m9
        have hIm9 := zi_up hmm9 hIm7 (zc_25_5 hc0) (zb_97 _) (by omega) (by omega)
        have hFm9 := zfr_up hmm9 hFm7 (zc_25_5 hc0) rfl
        have hRK54m9 := zR_K54_fr (zdis_fr (zfr_up hmm9 (zfr_rf [(97, 0)] _) (zc_25_5 hc0) rfl) rfl) hRK54m7
        have b10 : 0 ≤ x4 ∧ x4 < 48 := by omega
        refine zw_if b10 ?_
        have r11 : 0 ≤ (m9 (a0 + 4) x4) ∧ (m9 (a0 + 4) x4) ≤ 999000 := zi_rd hIm9 (zc_25_6 hc0) (zb_98 _)
        refine zw_bd (zw_mono (zk_254 n hIm9 zq_50 ⟨by omega, by omega⟩ ⟨by omega, by omega⟩ ⟨by omega, by omega⟩) (fun v13 m12 hqm12 => ?_))
        obtain ⟨hIm12, hfm12, hvm12⟩ := hqm12
        have hFm12 := zfr_tr hFm9 hfm12 rfl
        have hRK54m12 := zR_K54_fr (zdis_fr hfm12 rfl) hRK54m9
        have b14 : 0 ≤ x4 ∧ x4 < 48 := by omega
        refine zw_if b14 ?_
        generalize hmm15 : zu_up m12 (a0 + 4) x4 v13 = m15
        have hIm15 := zi_up hmm15 hIm12 (zc_25_6 hc0) (zb_98 _) (by omega) (by omega)
        have hFm15 := zfr_up hmm15 hFm12 (zc_25_6 hc0) rfl
        have hRK54m15 := zR_K54_fr (zdis_fr (zfr_up hmm15 (zfr_rf [(98, 0)] _) (zc_25_6 hc0) rfl) rfl) hRK54m12
        exact zw_some ⟨hIm15, hFm15, hRK54m15, trivial⟩
      · have r16 : (-2147483648) ≤ (mh x3 6) ∧ (mh x3 6) ≤ 2147483647 := zi_rd hImh hx3 zb_27_6
        refine zw_ite (fun h17 => ?_) (fun h17 => ?_)
        · generalize hmm18 : zu_up mh x3 7 (-1) = m18
          have hIm18 := zi_up hmm18 hImh hx3 zb_27_7 (by omega) (by omega)
          have hFm18 := zfr_up hmm18 hFmh hx3 rfl
          have hRK54m18 := zR_K54_fr (zdis_fr (zfr_up hmm18 (zfr_rf [(27, 8)] _) hx3 rfl) rfl) hRK54mh
          have r19 : (-2147483648) ≤ (m18 x3 5) ∧ (m18 x3 5) ≤ 2147483647 := zi_rd hIm18 hx3 zb_27_5
          have w20 := zu_w32_rg ((m18 x3 5) + 1)
          generalize hmm21 : zu_up m18 x3 5 (zu_w32 ((m18 x3 5) + 1)) = m21
          have hIm21 := zi_up hmm21 hIm18 hx3 zb_27_5 (by omega) (by omega)
          have hFm21 := zfr_up hmm21 hFm18 hx3 rfl
          have hRK54m21 := zR_K54_fr (zdis_fr (zfr_up hmm21 (zfr_rf [(27, 6)] _) hx3 rfl) rfl) hRK54m18
          refine zw_b (by omega) ?_
          have b22 : 0 ≤ x4 ∧ x4 < 48 := by omega
          refine zw_if b22 ?_
          generalize hmm23 : zu_up m21 (a0 + 3) x4 1 = m23
          have hIm23 := zi_up hmm23 hIm21 (zc_25_5 hc0) (zb_97 _) (by omega) (by omega)
          have hFm23 := zfr_up hmm23 hFm21 (zc_25_5 hc0) rfl
          have hRK54m23 := zR_K54_fr (zdis_fr (zfr_up hmm23 (zfr_rf [(97, 0)] _) (zc_25_5 hc0) rfl) rfl) hRK54m21
          have b24 : 0 ≤ x4 ∧ x4 < 48 := by omega
          refine zw_if b24 ?_
          have r25 : 0 ≤ (m23 (a0 + 4) x4) ∧ (m23 (a0 + 4) x4) ≤ 999000 := zi_rd hIm23 (zc_25_6 hc0) (zb_98 _)
          refine zw_bd (zw_mono (zk_254 n hIm23 zq_50 ⟨by omega, by omega⟩ ⟨by omega, by omega⟩ ⟨by omega, by omega⟩) (fun v27 m26 hqm26 => ?_))
          obtain ⟨hIm26, hfm26, hvm26⟩ := hqm26
          have hFm26 := zfr_tr hFm23 hfm26 rfl
          have hRK54m26 := zR_K54_fr (zdis_fr hfm26 rfl) hRK54m23
          have b28 : 0 ≤ x4 ∧ x4 < 48 := by omega
          refine zw_if b28 ?_
          generalize hmm29 : zu_up m26 (a0 + 4) x4 v27 = m29
          have hIm29 := zi_up hmm29 hIm26 (zc_25_6 hc0) (zb_98 _) (by omega) (by omega)
          have hFm29 := zfr_up hmm29 hFm26 (zc_25_6 hc0) rfl
          have hRK54m29 := zR_K54_fr (zdis_fr (zfr_up hmm29 (zfr_rf [(98, 0)] _) (zc_25_6 hc0) rfl) rfl) hRK54m26
          exact zw_some ⟨hIm29, hFm29, hRK54m29, trivial⟩
        · generalize hmm30 : zu_up mh x3 7 x4 = m30
          have hIm30 := zi_up hmm30 hImh hx3 zb_27_7 (by omega) (by omega)
          have hFm30 := zfr_up hmm30 hFmh hx3 rfl
          have hRK54m30 := zR_K54_fr (zdis_fr (zfr_up hmm30 (zfr_rf [(27, 8)] _) hx3 rfl) rfl) hRK54mh
          have r31 : (-2147483648) ≤ (m30 x3 5) ∧ (m30 x3 5) ≤ 2147483647 := zi_rd hIm30 hx3 zb_27_5
          have w32 := zu_w32_rg ((m30 x3 5) + 1)
          generalize hmm33 : zu_up m30 x3 5 (zu_w32 ((m30 x3 5) + 1)) = m33
          have hIm33 := zi_up hmm33 hIm30 hx3 zb_27_5 (by omega) (by omega)
          have hFm33 := zfr_up hmm33 hFm30 hx3 rfl
          have hRK54m33 := zR_K54_fr (zdis_fr (zfr_up hmm33 (zfr_rf [(27, 6)] _) hx3 rfl) rfl) hRK54m30
          refine zw_b (by omega) ?_
          have b34 : 0 ≤ x4 ∧ x4 < 48 := by omega
          refine zw_if b34 ?_
          generalize hmm35 : zu_up m33 (a0 + 3) x4 1 = m35
          have hIm35 := zi_up hmm35 hIm33 (zc_25_5 hc0) (zb_97 _) (by omega) (by omega)
          have hFm35 := zfr_up hmm35 hFm33 (zc_25_5 hc0) rfl
          have hRK54m35 := zR_K54_fr (zdis_fr (zfr_up hmm35 (zfr_rf [(97, 0)] _) (zc_25_5 hc0) rfl) rfl) hRK54m33
          have b36 : 0 ≤ x4 ∧ x4 < 48 := by omega
          refine zw_if b36 ?_
          have r37 : 0 ≤ (m35 (a0 + 4) x4) ∧ (m35 (a0 + 4) x4) ≤ 999000 := zi_rd hIm35 (zc_25_6 hc0) (zb_98 _)
          refine zw_bd (zw_mono (zk_254 n hIm35 zq_50 ⟨by omega, by omega⟩ ⟨by omega, by omega⟩ ⟨by omega, by omega⟩) (fun v39 m38 hqm38 => ?_))
          obtain ⟨hIm38, hfm38, hvm38⟩ := hqm38
          have hFm38 := zfr_tr hFm35 hfm38 rfl
          have hRK54m38 := zR_K54_fr (zdis_fr hfm38 rfl) hRK54m35
          have b40 : 0 ≤ x4 ∧ x4 < 48 := by omega
          refine zw_if b40 ?_
          generalize hmm41 : zu_up m38 (a0 + 4) x4 v39 = m41
          have hIm41 := zi_up hmm41 hIm38 (zc_25_6 hc0) (zb_98 _) (by omega) (by omega)
          have hFm41 := zfr_up hmm41 hFm38 (zc_25_6 hc0) rfl
          have hRK54m41 := zR_K54_fr (zdis_fr (zfr_up hmm41 (zfr_rf [(98, 0)] _) (zc_25_6 hc0) rfl) rfl) hRK54m38
          exact zw_some ⟨hIm41, hFm41, hRK54m41, trivial⟩
    · refine zw_ite (fun h42 => ?_) (fun h42 => ?_)
      · have b43 : 0 ≤ x6 ∧ x6 < 16 := by omega
        refine zw_if b43 ?_
        have r44 : (-3) ≤ (mh ((a0 + 1) + 5 + x6) 3) ∧ (mh ((a0 + 1) + 5 + x6) 3) ≤ 3 := zi_rd hImh (zc_95_e (zc_25_1 hc0) b43) zb_26_3
        refine zw_ite (fun h45 => ?_) (fun h45 => ?_)
        · have w46 := zu_w32_id (z := x6 + 1) (by omega) (by omega)
          have hM : (16 - (zu_w32 (x6 + 1))) * 1 + 0 < (k : Int) := by omega
          exact zw_le (zu_forget (zu_lr_same (zu_lr_same (zu_lr_same (zu_lr_same (zu_lr_same (zu_lr_same (zu_lr_same (zu_lr_drop (zu_lr_same zu_lr_nil)))))))))) (ih x3 x4 x5 (zu_w32 (x6 + 1)) mh hImh hFmh ⟨by omega, by omega⟩ ⟨by omega, by omega⟩ hx3 ⟨by omega, by omega⟩ ⟨by omega, by omega⟩ ⟨by omega, by omega⟩ hRK54mh hM)
        · have r47 : 0 ≤ (mh ((a0 + 1) + 5 + x6) 0) ∧ (mh ((a0 + 1) + 5 + x6) 0) ≤ 47 := zi_rd hImh (zc_95_e (zc_25_1 hc0) b43) zb_26_0
          refine zw_ite (fun h48 => ?_) (fun h48 => ?_)
          · have w49 := zu_w32_id (z := x6 + 1) (by omega) (by omega)
            have hM : (16 - (zu_w32 (x6 + 1))) * 1 + 0 < (k : Int) := by omega
            exact zw_le (zu_forget (zu_lr_same (zu_lr_same (zu_lr_same (zu_lr_same (zu_lr_same (zu_lr_same (zu_lr_same (zu_lr_drop (zu_lr_same zu_lr_nil)))))))))) (ih x3 x4 x5 (zu_w32 (x6 + 1)) mh hImh hFmh ⟨by omega, by omega⟩ ⟨by omega, by omega⟩ hx3 ⟨by omega, by omega⟩ ⟨by omega, by omega⟩ ⟨by omega, by omega⟩ hRK54mh hM)
          · have r50 : 0 ≤ (mh ((a0 + 1) + 5 + x6) 1) ∧ (mh ((a0 + 1) + 5 + x6) 1) ≤ 3 := zi_rd hImh (zc_95_e (zc_25_1 hc0) b43) zb_26_1
            refine zw_bd (zw_eq (zu_call_at (zt_T n) (zm_217 n) (zdp_217 n) _ _ _ _ _ rfl (zr_217_0 n _ _ a0 a1 (mh ((a0 + 1) + 5 + x6) 1) mh)) ?_)
            have r51 : 0 ≤ (mh a0 10) ∧ (mh a0 10) ≤ 3 := zi_rd hImh hc0 zb_25_10
            refine zw_ite (fun h52 => ?_) (fun h52 => ?_)
            · refine zw_b (by omega) ?_
              refine zw_some ?_
              refine zw_ite (fun h53 => ?_) (fun h53 => ?_)
              · exfalso; omega
              · refine zw_ite (fun h54 => ?_) (fun h54 => ?_)
                · refine zw_bd (zw_mono (zk_215_25 n hImh hc0) (fun v56 m55 hqm55 => ?_))
                  obtain ⟨hIm55, hfm55, hvm55⟩ := hqm55
                  have hFm55 := zfr_tr hFmh hfm55 rfl
                  have hRK54m55 := zR_K54_fr (zdis_fr hfm55 rfl) hRK54mh
                  refine zw_nif (by omega) ?_
                  have d57 := ztmod_b2 (x := v56) (y := 100) (by omega)
                  have r58 : (-2147483648) ≤ (m55 x3 6) ∧ (m55 x3 6) ≤ 2147483647 := zi_rd hIm55 hx3 zb_27_6
                  refine zw_bd (zw_mono (zk_224_25 n hIm55 hc0 ⟨by omega, by omega⟩ ⟨by omega, by omega⟩ ⟨by omega, by omega⟩) (fun v60 m59 hqm59 => ?_))
                  obtain ⟨hIm59, hfm59, hvm59⟩ := hqm59
                  have hFm59 := zfr_tr hFm55 hfm59 rfl
                  have hRK54m59 := zR_K54_fr (zdis_fr hfm59 rfl) hRK54m55
                  refine zw_bd (zw_mono (zk_250 n hIm59 zq_50 hRK54m59) (fun v62 m61 hqm61 => ?_))
                  obtain ⟨hIm61, hfm61, hvm61⟩ := hqm61
                  have hFm61 := zfr_tr hFm59 hfm61 rfl
                  obtain ⟨hRK54m61, hvm61⟩ := hvm61
                  refine zw_ite (fun h63 => ?_) (fun h63 => ?_)
                  · have w64 := zu_w32_id (z := x6 + 1) (by omega) (by omega)
                    have hM : (16 - (zu_w32 (x6 + 1))) * 1 + 0 < (k : Int) := by omega
                    exact zw_le (zu_forget (zu_lr_same (zu_lr_same (zu_lr_same (zu_lr_same (zu_lr_same (zu_lr_same (zu_lr_same (zu_lr_drop (zu_lr_drop zu_lr_nil)))))))))) (ih x3 x4 x5 (zu_w32 (x6 + 1)) m61 hIm61 hFm61 ⟨by omega, by omega⟩ ⟨by omega, by omega⟩ hx3 ⟨by omega, by omega⟩ ⟨by omega, by omega⟩ ⟨by omega, by omega⟩ hRK54m61 hM)
                  · generalize hmm65 : zu_up m61 ((a0 + 1) + 5 + x6) 3 a1 = m65
                    have hIm65 := zi_up hmm65 hIm61 (zc_95_e (zc_25_1 hc0) b43) zb_26_3 (by omega) (by omega)
                    have hFm65 := zfr_up hmm65 hFm61 (zc_95_e (zc_25_1 hc0) b43) rfl
                    have hRK54m65 := zR_K54_fr (zdis_fr (zfr_up hmm65 (zfr_rf [(26, 4)] _) (zc_95_e (zc_25_1 hc0) b43) rfl) rfl) hRK54m61
                    have r66 : (-2147483648) ≤ (m65 x3 6) ∧ (m65 x3 6) ≤ 2147483647 := zi_rd hIm65 hx3 zb_27_6
                    have e67 : (m65 x3 6) = (m55 x3 6) := (Eq.trans (zs_ne hmm65 (Or.inl (zc_ne hx3 (zc_95_e (zc_25_1 hc0) b43) (by decide)))) (Eq.trans (zfr_ap hfm61 hx3 rfl) (zfr_ap hfm59 hx3 rfl)))
                    have w68 := zu_w32_rg ((m65 x3 6) + 1)
                    generalize hmm69 : zu_up m65 x3 6 (zu_w32 ((m65 x3 6) + 1)) = m69
                    have hIm69 := zi_up hmm69 hIm65 hx3 zb_27_6 (by omega) (by omega)
                    have hFm69 := zfr_up hmm69 hFm65 hx3 rfl
                    have hRK54m69 := zR_K54_fr (zdis_fr (zfr_up hmm69 (zfr_rf [(27, 7)] _) hx3 rfl) rfl) hRK54m65
                    have w70 := zu_w32_id (z := x6 + 1) (by omega) (by omega)
                    have hM : (16 - (zu_w32 (x6 + 1))) * 1 + 0 < (k : Int) := by omega
                    exact zw_le (zu_forget (zu_lr_same (zu_lr_same (zu_lr_same (zu_lr_same (zu_lr_same (zu_lr_same (zu_lr_same (zu_lr_drop (zu_lr_drop zu_lr_nil)))))))))) (ih x3 x4 x5 (zu_w32 (x6 + 1)) m69 hIm69 hFm69 ⟨by omega, by omega⟩ ⟨by omega, by omega⟩ hx3 ⟨by omega, by omega⟩ ⟨by omega, by omega⟩ ⟨by omega, by omega⟩ hRK54m69 hM)
                · exfalso; omega
            · refine zw_nif (by omega) ?_
              have d71 : Int.tmod a1 4 = a1 % 4 := Int.tmod_eq_emod_of_nonneg (by omega)
              refine zw_ite (fun h72 => ?_) (fun h72 => ?_)
              · refine zw_b (by omega) ?_
                refine zw_some ?_
                refine zw_ite (fun h73 => ?_) (fun h73 => ?_)
                · have w74 := zu_w32_id (z := x6 + 1) (by omega) (by omega)
                  have hM : (16 - (zu_w32 (x6 + 1))) * 1 + 0 < (k : Int) := by omega
                  exact zw_le (zu_forget (zu_lr_same (zu_lr_same (zu_lr_same (zu_lr_same (zu_lr_same (zu_lr_same (zu_lr_same (zu_lr_drop (zu_lr_same zu_lr_nil)))))))))) (ih x3 x4 x5 (zu_w32 (x6 + 1)) mh hImh hFmh ⟨by omega, by omega⟩ ⟨by omega, by omega⟩ hx3 ⟨by omega, by omega⟩ ⟨by omega, by omega⟩ ⟨by omega, by omega⟩ hRK54mh hM)
                · exfalso; omega
              · refine zw_b (by omega) ?_
                refine zw_some ?_
                refine zw_ite (fun h75 => ?_) (fun h75 => ?_)
                · exfalso; omega
                · refine zw_ite (fun h76 => ?_) (fun h76 => ?_)
                  · refine zw_bd (zw_mono (zk_215_25 n hImh hc0) (fun v78 m77 hqm77 => ?_))
                    obtain ⟨hIm77, hfm77, hvm77⟩ := hqm77
                    have hFm77 := zfr_tr hFmh hfm77 rfl
                    have hRK54m77 := zR_K54_fr (zdis_fr hfm77 rfl) hRK54mh
                    refine zw_nif (by omega) ?_
                    have d79 := ztmod_b2 (x := v78) (y := 100) (by omega)
                    have r80 : (-2147483648) ≤ (m77 x3 6) ∧ (m77 x3 6) ≤ 2147483647 := zi_rd hIm77 hx3 zb_27_6
                    refine zw_bd (zw_mono (zk_224_25 n hIm77 hc0 ⟨by omega, by omega⟩ ⟨by omega, by omega⟩ ⟨by omega, by omega⟩) (fun v82 m81 hqm81 => ?_))
                    obtain ⟨hIm81, hfm81, hvm81⟩ := hqm81
                    have hFm81 := zfr_tr hFm77 hfm81 rfl
                    have hRK54m81 := zR_K54_fr (zdis_fr hfm81 rfl) hRK54m77
                    refine zw_bd (zw_mono (zk_250 n hIm81 zq_50 hRK54m81) (fun v84 m83 hqm83 => ?_))
                    obtain ⟨hIm83, hfm83, hvm83⟩ := hqm83
                    have hFm83 := zfr_tr hFm81 hfm83 rfl
                    obtain ⟨hRK54m83, hvm83⟩ := hvm83
                    refine zw_ite (fun h85 => ?_) (fun h85 => ?_)
                    · have w86 := zu_w32_id (z := x6 + 1) (by omega) (by omega)
                      have hM : (16 - (zu_w32 (x6 + 1))) * 1 + 0 < (k : Int) := by omega
                      exact zw_le (zu_forget (zu_lr_same (zu_lr_same (zu_lr_same (zu_lr_same (zu_lr_same (zu_lr_same (zu_lr_same (zu_lr_drop (zu_lr_drop zu_lr_nil)))))))))) (ih x3 x4 x5 (zu_w32 (x6 + 1)) m83 hIm83 hFm83 ⟨by omega, by omega⟩ ⟨by omega, by omega⟩ hx3 ⟨by omega, by omega⟩ ⟨by omega, by omega⟩ ⟨by omega, by omega⟩ hRK54m83 hM)
                    · generalize hmm87 : zu_up m83 ((a0 + 1) + 5 + x6) 3 a1 = m87
                      have hIm87 := zi_up hmm87 hIm83 (zc_95_e (zc_25_1 hc0) b43) zb_26_3 (by omega) (by omega)
                      have hFm87 := zfr_up hmm87 hFm83 (zc_95_e (zc_25_1 hc0) b43) rfl
                      have hRK54m87 := zR_K54_fr (zdis_fr (zfr_up hmm87 (zfr_rf [(26, 4)] _) (zc_95_e (zc_25_1 hc0) b43) rfl) rfl) hRK54m83
                      have r88 : (-2147483648) ≤ (m87 x3 6) ∧ (m87 x3 6) ≤ 2147483647 := zi_rd hIm87 hx3 zb_27_6
                      have e89 : (m87 x3 6) = (m77 x3 6) := (Eq.trans (zs_ne hmm87 (Or.inl (zc_ne hx3 (zc_95_e (zc_25_1 hc0) b43) (by decide)))) (Eq.trans (zfr_ap hfm83 hx3 rfl) (zfr_ap hfm81 hx3 rfl)))
                      have w90 := zu_w32_rg ((m87 x3 6) + 1)
                      generalize hmm91 : zu_up m87 x3 6 (zu_w32 ((m87 x3 6) + 1)) = m91
                      have hIm91 := zi_up hmm91 hIm87 hx3 zb_27_6 (by omega) (by omega)
                      have hFm91 := zfr_up hmm91 hFm87 hx3 rfl
                      have hRK54m91 := zR_K54_fr (zdis_fr (zfr_up hmm91 (zfr_rf [(27, 7)] _) hx3 rfl) rfl) hRK54m87
                      have w92 := zu_w32_id (z := x6 + 1) (by omega) (by omega)
                      have hM : (16 - (zu_w32 (x6 + 1))) * 1 + 0 < (k : Int) := by omega
                      exact zw_le (zu_forget (zu_lr_same (zu_lr_same (zu_lr_same (zu_lr_same (zu_lr_same (zu_lr_same (zu_lr_same (zu_lr_drop (zu_lr_drop zu_lr_nil)))))))))) (ih x3 x4 x5 (zu_w32 (x6 + 1)) m91 hIm91 hFm91 ⟨by omega, by omega⟩ ⟨by omega, by omega⟩ hx3 ⟨by omega, by omega⟩ ⟨by omega, by omega⟩ ⟨by omega, by omega⟩ hRK54m91 hM)
                  · exfalso; omega
      · have r93 : (-2147483648) ≤ (mh x3 7) ∧ (mh x3 7) ≤ 2147483647 := zi_rd hImh hx3 zb_27_7
        refine zw_ite (fun h94 => ?_) (fun h94 => ?_)
        · refine zw_ite (fun h95 => ?_) (fun h95 => ?_)
          · exfalso; omega
          · have r96 : (-2147483648) ≤ (mh x3 6) ∧ (mh x3 6) ≤ 2147483647 := zi_rd hImh hx3 zb_27_6
            refine zw_ite (fun h97 => ?_) (fun h97 => ?_)
            · generalize hmm98 : zu_up mh x3 7 (-1) = m98
              have hIm98 := zi_up hmm98 hImh hx3 zb_27_7 (by omega) (by omega)
              have hFm98 := zfr_up hmm98 hFmh hx3 rfl
              have hRK54m98 := zR_K54_fr (zdis_fr (zfr_up hmm98 (zfr_rf [(27, 8)] _) hx3 rfl) rfl) hRK54mh
              have r99 : (-2147483648) ≤ (m98 x3 5) ∧ (m98 x3 5) ≤ 2147483647 := zi_rd hIm98 hx3 zb_27_5
              have w100 := zu_w32_rg ((m98 x3 5) + 1)
              generalize hmm101 : zu_up m98 x3 5 (zu_w32 ((m98 x3 5) + 1)) = m101
              have hIm101 := zi_up hmm101 hIm98 hx3 zb_27_5 (by omega) (by omega)
              have hFm101 := zfr_up hmm101 hFm98 hx3 rfl
              have hRK54m101 := zR_K54_fr (zdis_fr (zfr_up hmm101 (zfr_rf [(27, 6)] _) hx3 rfl) rfl) hRK54m98
              refine zw_b (by omega) ?_
              have b102 : 0 ≤ x4 ∧ x4 < 48 := by omega
              refine zw_if b102 ?_
              generalize hmm103 : zu_up m101 (a0 + 3) x4 1 = m103
              have hIm103 := zi_up hmm103 hIm101 (zc_25_5 hc0) (zb_97 _) (by omega) (by omega)
              have hFm103 := zfr_up hmm103 hFm101 (zc_25_5 hc0) rfl
              have hRK54m103 := zR_K54_fr (zdis_fr (zfr_up hmm103 (zfr_rf [(97, 0)] _) (zc_25_5 hc0) rfl) rfl) hRK54m101
              have b104 : 0 ≤ x4 ∧ x4 < 48 := by omega
              refine zw_if b104 ?_
              have r105 : 0 ≤ (m103 (a0 + 4) x4) ∧ (m103 (a0 + 4) x4) ≤ 999000 := zi_rd hIm103 (zc_25_6 hc0) (zb_98 _)
              refine zw_bd (zw_mono (zk_254 n hIm103 zq_50 ⟨by omega, by omega⟩ ⟨by omega, by omega⟩ ⟨by omega, by omega⟩) (fun v107 m106 hqm106 => ?_))
              obtain ⟨hIm106, hfm106, hvm106⟩ := hqm106
              have hFm106 := zfr_tr hFm103 hfm106 rfl
              have hRK54m106 := zR_K54_fr (zdis_fr hfm106 rfl) hRK54m103
              have b108 : 0 ≤ x4 ∧ x4 < 48 := by omega
              refine zw_if b108 ?_
              generalize hmm109 : zu_up m106 (a0 + 4) x4 v107 = m109
              have hIm109 := zi_up hmm109 hIm106 (zc_25_6 hc0) (zb_98 _) (by omega) (by omega)
              have hFm109 := zfr_up hmm109 hFm106 (zc_25_6 hc0) rfl
              have hRK54m109 := zR_K54_fr (zdis_fr (zfr_up hmm109 (zfr_rf [(98, 0)] _) (zc_25_6 hc0) rfl) rfl) hRK54m106
              exact zw_some ⟨hIm109, hFm109, hRK54m109, trivial⟩
            · generalize hmm110 : zu_up mh x3 7 x4 = m110
              have hIm110 := zi_up hmm110 hImh hx3 zb_27_7 (by omega) (by omega)
              have hFm110 := zfr_up hmm110 hFmh hx3 rfl
              have hRK54m110 := zR_K54_fr (zdis_fr (zfr_up hmm110 (zfr_rf [(27, 8)] _) hx3 rfl) rfl) hRK54mh
              have r111 : (-2147483648) ≤ (m110 x3 5) ∧ (m110 x3 5) ≤ 2147483647 := zi_rd hIm110 hx3 zb_27_5
              have w112 := zu_w32_rg ((m110 x3 5) + 1)
              generalize hmm113 : zu_up m110 x3 5 (zu_w32 ((m110 x3 5) + 1)) = m113
              have hIm113 := zi_up hmm113 hIm110 hx3 zb_27_5 (by omega) (by omega)
              have hFm113 := zfr_up hmm113 hFm110 hx3 rfl
              have hRK54m113 := zR_K54_fr (zdis_fr (zfr_up hmm113 (zfr_rf [(27, 6)] _) hx3 rfl) rfl) hRK54m110
              refine zw_b (by omega) ?_
              have b114 : 0 ≤ x4 ∧ x4 < 48 := by omega
              refine zw_if b114 ?_
              generalize hmm115 : zu_up m113 (a0 + 3) x4 1 = m115
              have hIm115 := zi_up hmm115 hIm113 (zc_25_5 hc0) (zb_97 _) (by omega) (by omega)
              have hFm115 := zfr_up hmm115 hFm113 (zc_25_5 hc0) rfl
              have hRK54m115 := zR_K54_fr (zdis_fr (zfr_up hmm115 (zfr_rf [(97, 0)] _) (zc_25_5 hc0) rfl) rfl) hRK54m113
              have b116 : 0 ≤ x4 ∧ x4 < 48 := by omega
              refine zw_if b116 ?_
              have r117 : 0 ≤ (m115 (a0 + 4) x4) ∧ (m115 (a0 + 4) x4) ≤ 999000 := zi_rd hIm115 (zc_25_6 hc0) (zb_98 _)
              refine zw_bd (zw_mono (zk_254 n hIm115 zq_50 ⟨by omega, by omega⟩ ⟨by omega, by omega⟩ ⟨by omega, by omega⟩) (fun v119 m118 hqm118 => ?_))
              obtain ⟨hIm118, hfm118, hvm118⟩ := hqm118
              have hFm118 := zfr_tr hFm115 hfm118 rfl
              have hRK54m118 := zR_K54_fr (zdis_fr hfm118 rfl) hRK54m115
              have b120 : 0 ≤ x4 ∧ x4 < 48 := by omega
              refine zw_if b120 ?_
              generalize hmm121 : zu_up m118 (a0 + 4) x4 v119 = m121
              have hIm121 := zi_up hmm121 hIm118 (zc_25_6 hc0) (zb_98 _) (by omega) (by omega)
              have hFm121 := zfr_up hmm121 hFm118 (zc_25_6 hc0) rfl
              have hRK54m121 := zR_K54_fr (zdis_fr (zfr_up hmm121 (zfr_rf [(98, 0)] _) (zc_25_6 hc0) rfl) rfl) hRK54m118
              exact zw_some ⟨hIm121, hFm121, hRK54m121, trivial⟩
        · have b122 : 0 ≤ x6 ∧ x6 < 16 := by omega
          refine zw_if b122 ?_
          have r123 : (-3) ≤ (mh ((a0 + 1) + 5 + x6) 3) ∧ (mh ((a0 + 1) + 5 + x6) 3) ≤ 3 := zi_rd hImh (zc_95_e (zc_25_1 hc0) b122) zb_26_3
          refine zw_ite (fun h124 => ?_) (fun h124 => ?_)
          · have w125 := zu_w32_id (z := x6 + 1) (by omega) (by omega)
            have hM : (16 - (zu_w32 (x6 + 1))) * 1 + 0 < (k : Int) := by omega
            exact zw_le (zu_forget (zu_lr_same (zu_lr_same (zu_lr_same (zu_lr_same (zu_lr_same (zu_lr_same (zu_lr_same (zu_lr_drop (zu_lr_same zu_lr_nil)))))))))) (ih x3 x4 x5 (zu_w32 (x6 + 1)) mh hImh hFmh ⟨by omega, by omega⟩ ⟨by omega, by omega⟩ hx3 ⟨by omega, by omega⟩ ⟨by omega, by omega⟩ ⟨by omega, by omega⟩ hRK54mh hM)
          · have r126 : 0 ≤ (mh ((a0 + 1) + 5 + x6) 0) ∧ (mh ((a0 + 1) + 5 + x6) 0) ≤ 47 := zi_rd hImh (zc_95_e (zc_25_1 hc0) b122) zb_26_0
            refine zw_ite (fun h127 => ?_) (fun h127 => ?_)
            · have w128 := zu_w32_id (z := x6 + 1) (by omega) (by omega)
              have hM : (16 - (zu_w32 (x6 + 1))) * 1 + 0 < (k : Int) := by omega
              exact zw_le (zu_forget (zu_lr_same (zu_lr_same (zu_lr_same (zu_lr_same (zu_lr_same (zu_lr_same (zu_lr_same (zu_lr_drop (zu_lr_same zu_lr_nil)))))))))) (ih x3 x4 x5 (zu_w32 (x6 + 1)) mh hImh hFmh ⟨by omega, by omega⟩ ⟨by omega, by omega⟩ hx3 ⟨by omega, by omega⟩ ⟨by omega, by omega⟩ ⟨by omega, by omega⟩ hRK54mh hM)
            · have r129 : 0 ≤ (mh ((a0 + 1) + 5 + x6) 1) ∧ (mh ((a0 + 1) + 5 + x6) 1) ≤ 3 := zi_rd hImh (zc_95_e (zc_25_1 hc0) b122) zb_26_1
              refine zw_bd (zw_eq (zu_call_at (zt_T n) (zm_217 n) (zdp_217 n) _ _ _ _ _ rfl (zr_217_0 n _ _ a0 a1 (mh ((a0 + 1) + 5 + x6) 1) mh)) ?_)
              have r130 : 0 ≤ (mh a0 10) ∧ (mh a0 10) ≤ 3 := zi_rd hImh hc0 zb_25_10
              refine zw_ite (fun h131 => ?_) (fun h131 => ?_)
              · refine zw_b (by omega) ?_
                refine zw_some ?_
                refine zw_ite (fun h132 => ?_) (fun h132 => ?_)
                · exfalso; omega
                · refine zw_ite (fun h133 => ?_) (fun h133 => ?_)
                  · exfalso; omega
                  · have r134 : (-2147483648) ≤ (mh x3 6) ∧ (mh x3 6) ≤ 2147483647 := zi_rd hImh hx3 zb_27_6
                    refine zw_bd (zw_mono (zk_224_25 n hImh hc0 ⟨by omega, by omega⟩ ⟨by omega, by omega⟩ ⟨by omega, by omega⟩) (fun v136 m135 hqm135 => ?_))
                    obtain ⟨hIm135, hfm135, hvm135⟩ := hqm135
                    have hFm135 := zfr_tr hFmh hfm135 rfl
                    have hRK54m135 := zR_K54_fr (zdis_fr hfm135 rfl) hRK54mh
                    refine zw_bd (zw_mono (zk_250 n hIm135 zq_50 hRK54m135) (fun v138 m137 hqm137 => ?_))
                    obtain ⟨hIm137, hfm137, hvm137⟩ := hqm137
                    have hFm137 := zfr_tr hFm135 hfm137 rfl
                    obtain ⟨hRK54m137, hvm137⟩ := hvm137
                    refine zw_ite (fun h139 => ?_) (fun h139 => ?_)
                    · have w140 := zu_w32_id (z := x6 + 1) (by omega) (by omega)
                      have hM : (16 - (zu_w32 (x6 + 1))) * 1 + 0 < (k : Int) := by omega
                      exact zw_le (zu_forget (zu_lr_same (zu_lr_same (zu_lr_same (zu_lr_same (zu_lr_same (zu_lr_same (zu_lr_same (zu_lr_drop (zu_lr_drop zu_lr_nil)))))))))) (ih x3 x4 x5 (zu_w32 (x6 + 1)) m137 hIm137 hFm137 ⟨by omega, by omega⟩ ⟨by omega, by omega⟩ hx3 ⟨by omega, by omega⟩ ⟨by omega, by omega⟩ ⟨by omega, by omega⟩ hRK54m137 hM)
                    · generalize hmm141 : zu_up m137 ((a0 + 1) + 5 + x6) 3 a1 = m141
                      have hIm141 := zi_up hmm141 hIm137 (zc_95_e (zc_25_1 hc0) b122) zb_26_3 (by omega) (by omega)
                      have hFm141 := zfr_up hmm141 hFm137 (zc_95_e (zc_25_1 hc0) b122) rfl
                      have hRK54m141 := zR_K54_fr (zdis_fr (zfr_up hmm141 (zfr_rf [(26, 4)] _) (zc_95_e (zc_25_1 hc0) b122) rfl) rfl) hRK54m137
                      have r142 : (-2147483648) ≤ (m141 x3 6) ∧ (m141 x3 6) ≤ 2147483647 := zi_rd hIm141 hx3 zb_27_6
                      have e143 : (m141 x3 6) = (mh x3 6) := (Eq.trans (zs_ne hmm141 (Or.inl (zc_ne hx3 (zc_95_e (zc_25_1 hc0) b122) (by decide)))) (Eq.trans (zfr_ap hfm137 hx3 rfl) (zfr_ap hfm135 hx3 rfl)))
                      have w144 := zu_w32_rg ((m141 x3 6) + 1)
                      generalize hmm145 : zu_up m141 x3 6 (zu_w32 ((m141 x3 6) + 1)) = m145
                      have hIm145 := zi_up hmm145 hIm141 hx3 zb_27_6 (by omega) (by omega)
                      have hFm145 := zfr_up hmm145 hFm141 hx3 rfl
                      have hRK54m145 := zR_K54_fr (zdis_fr (zfr_up hmm145 (zfr_rf [(27, 7)] _) hx3 rfl) rfl) hRK54m141
                      have w146 := zu_w32_id (z := x6 + 1) (by omega) (by omega)
                      have hM : (16 - (zu_w32 (x6 + 1))) * 1 + 0 < (k : Int) := by omega
                      exact zw_le (zu_forget (zu_lr_same (zu_lr_same (zu_lr_same (zu_lr_same (zu_lr_same (zu_lr_same (zu_lr_same (zu_lr_drop (zu_lr_drop zu_lr_nil)))))))))) (ih x3 x4 x5 (zu_w32 (x6 + 1)) m145 hIm145 hFm145 ⟨by omega, by omega⟩ ⟨by omega, by omega⟩ hx3 ⟨by omega, by omega⟩ ⟨by omega, by omega⟩ ⟨by omega, by omega⟩ hRK54m145 hM)
              · refine zw_nif (by omega) ?_
                have d147 : Int.tmod a1 4 = a1 % 4 := Int.tmod_eq_emod_of_nonneg (by omega)
                refine zw_ite (fun h148 => ?_) (fun h148 => ?_)
                · refine zw_b (by omega) ?_
                  refine zw_some ?_
                  refine zw_ite (fun h149 => ?_) (fun h149 => ?_)
                  · have w150 := zu_w32_id (z := x6 + 1) (by omega) (by omega)
                    have hM : (16 - (zu_w32 (x6 + 1))) * 1 + 0 < (k : Int) := by omega
                    exact zw_le (zu_forget (zu_lr_same (zu_lr_same (zu_lr_same (zu_lr_same (zu_lr_same (zu_lr_same (zu_lr_same (zu_lr_drop (zu_lr_same zu_lr_nil)))))))))) (ih x3 x4 x5 (zu_w32 (x6 + 1)) mh hImh hFmh ⟨by omega, by omega⟩ ⟨by omega, by omega⟩ hx3 ⟨by omega, by omega⟩ ⟨by omega, by omega⟩ ⟨by omega, by omega⟩ hRK54mh hM)
                  · exfalso; omega
                · refine zw_b (by omega) ?_
                  refine zw_some ?_
                  refine zw_ite (fun h151 => ?_) (fun h151 => ?_)
                  · exfalso; omega
                  · refine zw_ite (fun h152 => ?_) (fun h152 => ?_)
                    · exfalso; omega
                    · have r153 : (-2147483648) ≤ (mh x3 6) ∧ (mh x3 6) ≤ 2147483647 := zi_rd hImh hx3 zb_27_6
                      refine zw_bd (zw_mono (zk_224_25 n hImh hc0 ⟨by omega, by omega⟩ ⟨by omega, by omega⟩ ⟨by omega, by omega⟩) (fun v155 m154 hqm154 => ?_))
                      obtain ⟨hIm154, hfm154, hvm154⟩ := hqm154
                      have hFm154 := zfr_tr hFmh hfm154 rfl
                      have hRK54m154 := zR_K54_fr (zdis_fr hfm154 rfl) hRK54mh
                      refine zw_bd (zw_mono (zk_250 n hIm154 zq_50 hRK54m154) (fun v157 m156 hqm156 => ?_))
                      obtain ⟨hIm156, hfm156, hvm156⟩ := hqm156
                      have hFm156 := zfr_tr hFm154 hfm156 rfl
                      obtain ⟨hRK54m156, hvm156⟩ := hvm156
                      refine zw_ite (fun h158 => ?_) (fun h158 => ?_)
                      · have w159 := zu_w32_id (z := x6 + 1) (by omega) (by omega)
                        have hM : (16 - (zu_w32 (x6 + 1))) * 1 + 0 < (k : Int) := by omega
                        exact zw_le (zu_forget (zu_lr_same (zu_lr_same (zu_lr_same (zu_lr_same (zu_lr_same (zu_lr_same (zu_lr_same (zu_lr_drop (zu_lr_drop zu_lr_nil)))))))))) (ih x3 x4 x5 (zu_w32 (x6 + 1)) m156 hIm156 hFm156 ⟨by omega, by omega⟩ ⟨by omega, by omega⟩ hx3 ⟨by omega, by omega⟩ ⟨by omega, by omega⟩ ⟨by omega, by omega⟩ hRK54m156 hM)
                      · generalize hmm160 : zu_up m156 ((a0 + 1) + 5 + x6) 3 a1 = m160
                        have hIm160 := zi_up hmm160 hIm156 (zc_95_e (zc_25_1 hc0) b122) zb_26_3 (by omega) (by omega)
                        have hFm160 := zfr_up hmm160 hFm156 (zc_95_e (zc_25_1 hc0) b122) rfl
                        have hRK54m160 := zR_K54_fr (zdis_fr (zfr_up hmm160 (zfr_rf [(26, 4)] _) (zc_95_e (zc_25_1 hc0) b122) rfl) rfl) hRK54m156
                        have r161 : (-2147483648) ≤ (m160 x3 6) ∧ (m160 x3 6) ≤ 2147483647 := zi_rd hIm160 hx3 zb_27_6
                        have e162 : (m160 x3 6) = (mh x3 6) := (Eq.trans (zs_ne hmm160 (Or.inl (zc_ne hx3 (zc_95_e (zc_25_1 hc0) b122) (by decide)))) (Eq.trans (zfr_ap hfm156 hx3 rfl) (zfr_ap hfm154 hx3 rfl)))
                        have w163 := zu_w32_rg ((m160 x3 6) + 1)
                        generalize hmm164 : zu_up m160 x3 6 (zu_w32 ((m160 x3 6) + 1)) = m164
                        have hIm164 := zi_up hmm164 hIm160 hx3 zb_27_6 (by omega) (by omega)
                        have hFm164 := zfr_up hmm164 hFm160 hx3 rfl
                        have hRK54m164 := zR_K54_fr (zdis_fr (zfr_up hmm164 (zfr_rf [(27, 7)] _) hx3 rfl) rfl) hRK54m160
                        have w165 := zu_w32_id (z := x6 + 1) (by omega) (by omega)
                        have hM : (16 - (zu_w32 (x6 + 1))) * 1 + 0 < (k : Int) := by omega
                        exact zw_le (zu_forget (zu_lr_same (zu_lr_same (zu_lr_same (zu_lr_same (zu_lr_same (zu_lr_same (zu_lr_same (zu_lr_drop (zu_lr_drop zu_lr_nil)))))))))) (ih x3 x4 x5 (zu_w32 (x6 + 1)) m164 hIm164 hFm164 ⟨by omega, by omega⟩ ⟨by omega, by omega⟩ hx3 ⟨by omega, by omega⟩ ⟨by omega, by omega⟩ ⟨by omega, by omega⟩ hRK54m164 hM)
set_option maxHeartbeats 4000000 in
theorem zk_216_25 (n : Nat) {a0 a1 a2 : Int} {m0 : zu_m} (hIm0 : zi_I m0) (hc0 : zcls a0 = 25) (ha1 : 0 ≤ a1 ∧ a1 ≤ 3) (ha2 : 0 ≤ a2 ∧ a2 ≤ 1)    (hRK54m0 : zR_K54 m0) : zw (zu_call (zt_T n) 216 [(27, a0), (0, a1), (0, a2)] m0) (fun v m => zi_I m ∧ zfr [(25, 10), (26, 4), (27, 6), (27, 7), (27, 8), (56, 0), (59, 1), (59, 2), (59, 3), (59, 4), (59, 5), (59, 6), (59, 7), (97, 0), (98, 0)] m0 m ∧ zR_K54 m ∧ True) := by
  have hFm0 : zfr [(25, 10), (26, 4), (27, 6), (27, 7), (27, 8), (56, 0), (59, 1), (59, 2), (59, 3), (59, 4), (59, 5), (59, 6), (59, 7), (97, 0), (98, 0)] m0 m0 := zfr_rf _ _
  refine zw_eq (zu_call_at (zt_T n) (zm_216 n) (zdp_216 n) _ _ _ _ _ rfl (zr_216_0 n _ _ a0 a1 a2 m0)) ?_
  have b166 : 0 ≤ a1 ∧ a1 < 4 := by omega
  refine zw_if b166 ?_
  have r167 : 0 ≤ (m0 ((a0 + 2) + 20 + a1) 1) ∧ (m0 ((a0 + 2) + 20 + a1) 1) ≤ 47 := zi_rd hIm0 (zc_96_e (zc_25_3 hc0) b166) zb_27_1
  have r168 : (-2147483648) ≤ (m0 ((a0 + 2) + 20 + a1) 6) ∧ (m0 ((a0 + 2) + 20 + a1) 6) ≤ 2147483647 := zi_rd hIm0 (zc_96_e (zc_25_3 hc0) b166) zb_27_6
  have hM : (16 - 0) * 1 + 0 < ((17 : Nat) : Int) := by omega
  exact (zl_216_25 n (m0 := m0) hc0 17) ((a0 + 2) + 20 + a1) (m0 ((a0 + 2) + 20 + a1) 1) (m0 ((a0 + 2) + 20 + a1) 6) 0 m0 hIm0 hFm0 ⟨by omega, by omega⟩ ⟨by omega, by omega⟩ (zc_96_e (zc_25_3 hc0) b166) ⟨by omega, by omega⟩ ⟨by omega, by omega⟩ ⟨by omega, by omega⟩ hRK54m0 hM
set_option maxHeartbeats 4000000 in
theorem zk_225 (n : Nat) {a0 a1 a2 : Int} {m0 : zu_m} (hIm0 : zi_I m0) (hc0 : zcls a0 = 16) (ha1 : 0 ≤ a1 ∧ a1 ≤ 3) (ha2 : 0 ≤ a2 ∧ a2 ≤ 15)    (hRK54m0 : zR_K54 m0) : zw (zu_call (zt_T n) 225 [(27, a0), (0, a1), (0, a2)] m0) (fun v m => zi_I m ∧ zfr [(56, 0), (59, 1), (59, 2), (59, 3), (59, 4), (59, 5), (59, 6), (59, 7)] m0 m ∧ zR_K54 m ∧ (0 ≤ v ∧ v ≤ 100)) := by
  have hFm0 : zfr [(56, 0), (59, 1), (59, 2), (59, 3), (59, 4), (59, 5), (59, 6), (59, 7)] m0 m0 := zfr_rf _ _
  refine zw_eq (zu_call_at (zt_T n) (zm_225 n) (zdp_225 n) _ _ _ _ _ rfl (zr_225_0 n _ _ a0 a1 a2 m0)) ?_
  have b1 : 0 ≤ a1 ∧ a1 < 4 := by omega
  refine zw_if b1 ?_
  have r2 : (-2147483648) ≤ (m0 ((a0 + 2) + 20 + a1) 6) ∧ (m0 ((a0 + 2) + 20 + a1) 6) ≤ 2147483647 := zi_rd hIm0 (zc_66_e (zc_16_3 hc0) b1) zb_18_6
  refine zw_bd (zw_mono (zk_224_16 n hIm0 hc0 ⟨by omega, by omega⟩ ⟨by omega, by omega⟩ ⟨by omega, by omega⟩) (fun v4 m3 hqm3 => ?_))
  obtain ⟨hIm3, hfm3, hvm3⟩ := hqm3
  have hFm3 := zfr_tr hFm0 hfm3 rfl
  have hRK54m3 := zR_K54_fr (zdis_fr hfm3 rfl) hRK54m0
  refine zw_bd (zw_mono (zk_250 n hIm3 zq_50 hRK54m3) (fun v6 m5 hqm5 => ?_))
  obtain ⟨hIm5, hfm5, hvm5⟩ := hqm5
  have hFm5 := zfr_tr hFm3 hfm5 rfl
  obtain ⟨hRK54m5, hvm5⟩ := hvm5
  exact zw_some ⟨hIm5, hFm5, hRK54m5, ⟨by omega, by omega⟩⟩
set_option maxHeartbeats 4000000 in
theorem zk_226 (n : Nat) {a0 a1 a2 : Int} {m0 : zu_m} (hIm0 : zi_I m0) (hc0 : zcls a0 = 16) (ha1 : 0 ≤ a1 ∧ a1 ≤ 3) (ha2 : 0 ≤ a2 ∧ a2 ≤ 15)    (hRK54m0 : zR_K54 m0) : zw (zu_call (zt_T n) 226 [(27, a0), (0, a1), (0, a2)] m0) (fun v m => zi_I m ∧ zfr [(56, 0), (59, 1), (59, 2), (59, 3), (59, 4), (59, 5), (59, 6), (59, 7)] m0 m ∧ zR_K54 m ∧ (0 ≤ v ∧ v ≤ 999)) := by
  have hFm0 : zfr [(56, 0), (59, 1), (59, 2), (59, 3), (59, 4), (59, 5), (59, 6), (59, 7)] m0 m0 := zfr_rf _ _
  refine zw_eq (zu_call_at (zt_T n) (zm_226 n) (zdp_226 n) _ _ _ _ _ rfl (zr_226_0 n _ _ a0 a1 a2 m0)) ?_
  refine zw_bd (zw_mono (zk_224_16 n hIm0 hc0 ⟨by omega, by omega⟩ ⟨by omega, by omega⟩ ⟨by omega, by omega⟩) (fun v2 m1 hqm1 => ?_))
  obtain ⟨hIm1, hfm1, hvm1⟩ := hqm1
  have hFm1 := zfr_tr hFm0 hfm1 rfl
  have hRK54m1 := zR_K54_fr (zdis_fr hfm1 rfl) hRK54m0
  refine zw_bd (zw_mono (zk_251 n hIm1 zq_50 hRK54m1) (fun v4 m3 hqm3 => ?_))
  obtain ⟨hIm3, hfm3, hvm3⟩ := hqm3
  have hFm3 := zfr_tr hFm1 hfm3 rfl
  obtain ⟨hRK54m3, hvm3⟩ := hvm3
  exact zw_some ⟨hIm3, hFm3, hRK54m3, ⟨by omega, by omega⟩⟩

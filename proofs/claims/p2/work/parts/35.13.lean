set_option maxHeartbeats 4000000 in
theorem zl_118 (n : Nat) {a0 : Int} {m0 : zu_m} (hc0 : zcls a0 = 28)  (hxp0 : (m0 a0 21) = (m0 a0 48)) : ∀ k : Nat, (∀ (mh : zu_m), zi_I mh → zfr [(28, 5), (28, 6), (28, 8), (28, 9), (28, 10), (28, 11), (28, 22), (28, 46), (28, 47), (28, 48), (28, 49), (28, 50), (28, 51), (117, 0), (118, 0), (119, 0), (120, 0), (121, 0)] m0 mh → ((m0 a0 7) ≤ (mh a0 7)) → ((mh a0 21) + znz mh = (mh a0 48)) → ((mh a0 46) + (mh a0 49) = zbi mh + 1) → ((mh a0 45) = znz mh + (mh a0 47)) → ((mh a0 49) = 0 → 1 ≤ (mh a0 21)) → ((mh a0 4) = (m0 a0 4)) → (zR_KN mh) → (zR_NS mh) → (zR_TR mh) → (zR_WD mh) → (7 * (700 - (mh a0 7)) + (mh a0 8)) * 1 + 0 < (k : Int) → zw (zu_ex (zt_T n) 118 25 [(40, a0)] [] mh) (fun v m => zi_I m ∧ zfr [(28, 5), (28, 6), (28, 8), (28, 9), (28, 10), (28, 11), (28, 22), (28, 46), (28, 47), (28, 48), (28, 49), (28, 50), (28, 51), (117, 0), (118, 0), (119, 0), (120, 0), (121, 0)] m0 m ∧ zR_KN m ∧ zR_NS m ∧ zR_TR m ∧ zR_WD m ∧ (0 ≤ v ∧ v ≤ 1) ∧ ((m0 a0 7) ≤ (m a0 7)) ∧ (v = 1 → ((m a0 21) = (m a0 48) ∧ 1 ≤ (m a0 21))) ∧ (v = 1 → (m a0 4) = (m0 a0 4)) ∧ (v = 0 → (m a0 4) ≠ 0))) := by
  intro k
  induction k with
  | zero => exact fun mh hImh hFmh hH0 hH1 hH2 hH3 hH4 hH5 hRKNmh hRNSmh hRTRmh hRWDmh hM => by exfalso; omega
  | succ k ih =>
    intro mh hImh hFmh hH0 hH1 hH2 hH3 hH4 hH5 hRKNmh hRNSmh hRTRmh hRWDmh hM
    refine zw_eq (zu_rega_at (zt_T n) (zm_118 n) (zdp_118 n) _ _ _ _ _ _ (zr_118_25 n _ _ a0 mh)) ?_
    have r1 : 0 ≤ (mh a0 7) ∧ (mh a0 7) ≤ 700 := zi_rd hImh hc0 zb_28_7
    have r2 : 0 ≤ (mh a0 21) ∧ (mh a0 21) ≤ 64 := zi_rd hImh hc0 zb_28_21
    have r3 : 0 ≤ (mh a0 48) ∧ (mh a0 48) ≤ 64 := zi_rd hImh hc0 zb_28_48
    have r4 : 0 ≤ (mh a0 46) ∧ (mh a0 46) ≤ 96 := zi_rd hImh hc0 zb_28_46
    have r5 : 0 ≤ (mh a0 49) ∧ (mh a0 49) ≤ 1 := zi_rd hImh hc0 zb_28_49
    have r6 : 0 ≤ (mh a0 45) ∧ (mh a0 45) ≤ 96 := zi_rd hImh hc0 zb_28_45
    have r7 : 0 ≤ (mh a0 47) ∧ (mh a0 47) ≤ 8 := zi_rd hImh hc0 zb_28_47
    have r8 : (-2147483648) ≤ (mh a0 4) ∧ (mh a0 4) ≤ 2147483647 := zi_rd hImh hc0 zb_28_4
    have r9 : 0 ≤ (mh a0 8) ∧ (mh a0 8) ≤ 6 := zi_rd hImh hc0 zb_28_8
    have g10 := zwt_bd hImh hc0
    have s11 := hRNSmh a0 hc0
    have s12 := hRTRmh a0 hc0
    refine zw_bd (zw_eq (zu_call_at (zt_T n) (zm_93 n) (zdp_93 n) _ _ _ _ _ rfl (zr_93_0 n _ _ a0 59 mh)) ?_)
    refine zw_ite (fun h13 => ?_) (fun h13 => ?_)
    · refine zw_b (by omega) ?_
      refine zw_some ?_
      refine zw_ite (fun h14 => ?_) (fun h14 => ?_)
      · refine zw_ite (fun h15 => ?_) (fun h15 => ?_)
        · refine zw_bd (zw_mono (zk_117 n hImh hc0 ⟨by omega, by omega⟩ (by omega) (by omega) (by omega) (by omega) (by omega) hRKNmh hRNSmh hRTRmh hRWDmh) (fun v17 m16 hqm16 => ?_))
          obtain ⟨hIm16, hfm16, hvm16⟩ := hqm16
          have hFm16 := zfr_tr hFmh hfm16 rfl
          obtain ⟨hRKNm16, hRNSm16, hRTRm16, hRWDm16, hvm16⟩ := hvm16
          have g18 := zwt_bd hIm16 hc0
          have s19 := hRNSm16 a0 hc0
          have s20 := hRTRm16 a0 hc0
          refine zw_ite (fun h21 => ?_) (fun h21 => ?_)
          · have r22 : 0 ≤ (m16 a0 7) ∧ (m16 a0 7) ≤ 700 := zi_rd hIm16 hc0 zb_28_7
            have r23 : 0 ≤ (m16 a0 21) ∧ (m16 a0 21) ≤ 64 := zi_rd hIm16 hc0 zb_28_21
            have r24 : 0 ≤ (m16 a0 48) ∧ (m16 a0 48) ≤ 64 := zi_rd hIm16 hc0 zb_28_48
            have r25 : 0 ≤ (m16 a0 46) ∧ (m16 a0 46) ≤ 96 := zi_rd hIm16 hc0 zb_28_46
            have r26 : 0 ≤ (m16 a0 49) ∧ (m16 a0 49) ≤ 1 := zi_rd hIm16 hc0 zb_28_49
            have r27 : 0 ≤ (m16 a0 45) ∧ (m16 a0 45) ≤ 96 := zi_rd hIm16 hc0 zb_28_45
            have r28 : 0 ≤ (m16 a0 47) ∧ (m16 a0 47) ≤ 8 := zi_rd hIm16 hc0 zb_28_47
            have r29 : (-2147483648) ≤ (m16 a0 4) ∧ (m16 a0 4) ≤ 2147483647 := zi_rd hIm16 hc0 zb_28_4
            have r30 : 0 ≤ (m16 a0 8) ∧ (m16 a0 8) ≤ 6 := zi_rd hIm16 hc0 zb_28_8
            have hM : (7 * (700 - (m16 a0 7)) + (m16 a0 8)) * 1 + 0 < (k : Int) := by omega
            exact ih  m16 hIm16 hFm16 (by omega) (by omega) (by omega) (by omega) (by omega) (by omega) hRKNm16 hRNSm16 hRTRm16 hRWDm16 hM
          · refine zw_b (by omega) ?_
            have r31 : 0 ≤ (m16 a0 7) ∧ (m16 a0 7) ≤ 700 := zi_rd hIm16 hc0 zb_28_7
            have r32 : 0 ≤ (m16 a0 21) ∧ (m16 a0 21) ≤ 64 := zi_rd hIm16 hc0 zb_28_21
            have r33 : 0 ≤ (m16 a0 48) ∧ (m16 a0 48) ≤ 64 := zi_rd hIm16 hc0 zb_28_48
            have r34 : (-2147483648) ≤ (m16 a0 4) ∧ (m16 a0 4) ≤ 2147483647 := zi_rd hIm16 hc0 zb_28_4
            exact zw_some ⟨hIm16, hFm16, hRKNm16, hRNSm16, hRTRm16, hRWDm16, ⟨by omega, by omega⟩, by omega, by omega, by omega, by omega⟩
        · refine zw_bd (zw_mono (zk_116 n hImh hc0 ⟨by omega, by omega⟩ (by omega) (by omega) (by omega) (by omega) hRKNmh hRNSmh hRTRmh hRWDmh) (fun v36 m35 hqm35 => ?_))
          obtain ⟨hIm35, hfm35, hvm35⟩ := hqm35
          have hFm35 := zfr_tr hFmh hfm35 rfl
          obtain ⟨hRKNm35, hRNSm35, hRTRm35, hRWDm35, hvm35⟩ := hvm35
          have g37 := zwt_bd hIm35 hc0
          have s38 := hRNSm35 a0 hc0
          have s39 := hRTRm35 a0 hc0
          refine zw_ite (fun h40 => ?_) (fun h40 => ?_)
          · refine zw_b (by omega) ?_
            have r41 : 0 ≤ (m35 a0 7) ∧ (m35 a0 7) ≤ 700 := zi_rd hIm35 hc0 zb_28_7
            have r42 : 0 ≤ (m35 a0 21) ∧ (m35 a0 21) ≤ 64 := zi_rd hIm35 hc0 zb_28_21
            have r43 : 0 ≤ (m35 a0 48) ∧ (m35 a0 48) ≤ 64 := zi_rd hIm35 hc0 zb_28_48
            have r44 : (-2147483648) ≤ (m35 a0 4) ∧ (m35 a0 4) ≤ 2147483647 := zi_rd hIm35 hc0 zb_28_4
            exact zw_some ⟨hIm35, hFm35, hRKNm35, hRNSm35, hRTRm35, hRWDm35, ⟨by omega, by omega⟩, by omega, by omega, by omega, by omega⟩
          · have r45 : 0 ≤ (m35 a0 7) ∧ (m35 a0 7) ≤ 700 := zi_rd hIm35 hc0 zb_28_7
            have r46 : 0 ≤ (m35 a0 21) ∧ (m35 a0 21) ≤ 64 := zi_rd hIm35 hc0 zb_28_21
            have r47 : 0 ≤ (m35 a0 48) ∧ (m35 a0 48) ≤ 64 := zi_rd hIm35 hc0 zb_28_48
            have r48 : 0 ≤ (m35 a0 46) ∧ (m35 a0 46) ≤ 96 := zi_rd hIm35 hc0 zb_28_46
            have r49 : 0 ≤ (m35 a0 49) ∧ (m35 a0 49) ≤ 1 := zi_rd hIm35 hc0 zb_28_49
            have r50 : 0 ≤ (m35 a0 45) ∧ (m35 a0 45) ≤ 96 := zi_rd hIm35 hc0 zb_28_45
            have r51 : 0 ≤ (m35 a0 47) ∧ (m35 a0 47) ≤ 8 := zi_rd hIm35 hc0 zb_28_47
            have r52 : (-2147483648) ≤ (m35 a0 4) ∧ (m35 a0 4) ≤ 2147483647 := zi_rd hIm35 hc0 zb_28_4
            have r53 : 0 ≤ (m35 a0 8) ∧ (m35 a0 8) ≤ 6 := zi_rd hIm35 hc0 zb_28_8
            have hM : (7 * (700 - (m35 a0 7)) + (m35 a0 8)) * 1 + 0 < (k : Int) := by omega
            exact ih  m35 hIm35 hFm35 (by omega) (by omega) (by omega) (by omega) (by omega) (by omega) hRKNm35 hRNSm35 hRTRm35 hRWDm35 hM
      · exfalso; omega
    · have r54 : (-2147483648) ≤ (mh a0 9) ∧ (mh a0 9) ≤ 2147483647 := zi_rd hImh hc0 zb_28_9
      refine zw_ite (fun h55 => ?_) (fun h55 => ?_)
      · refine zw_b (by omega) ?_
        refine zw_some ?_
        refine zw_ite (fun h56 => ?_) (fun h56 => ?_)
        · refine zw_ite (fun h57 => ?_) (fun h57 => ?_)
          · refine zw_bd (zw_mono (zk_117 n hImh hc0 ⟨by omega, by omega⟩ (by omega) (by omega) (by omega) (by omega) (by omega) hRKNmh hRNSmh hRTRmh hRWDmh) (fun v59 m58 hqm58 => ?_))
            obtain ⟨hIm58, hfm58, hvm58⟩ := hqm58
            have hFm58 := zfr_tr hFmh hfm58 rfl
            obtain ⟨hRKNm58, hRNSm58, hRTRm58, hRWDm58, hvm58⟩ := hvm58
            have g60 := zwt_bd hIm58 hc0
            have s61 := hRNSm58 a0 hc0
            have s62 := hRTRm58 a0 hc0
            refine zw_ite (fun h63 => ?_) (fun h63 => ?_)
            · have r64 : 0 ≤ (m58 a0 7) ∧ (m58 a0 7) ≤ 700 := zi_rd hIm58 hc0 zb_28_7
              have r65 : 0 ≤ (m58 a0 21) ∧ (m58 a0 21) ≤ 64 := zi_rd hIm58 hc0 zb_28_21
              have r66 : 0 ≤ (m58 a0 48) ∧ (m58 a0 48) ≤ 64 := zi_rd hIm58 hc0 zb_28_48
              have r67 : 0 ≤ (m58 a0 46) ∧ (m58 a0 46) ≤ 96 := zi_rd hIm58 hc0 zb_28_46
              have r68 : 0 ≤ (m58 a0 49) ∧ (m58 a0 49) ≤ 1 := zi_rd hIm58 hc0 zb_28_49
              have r69 : 0 ≤ (m58 a0 45) ∧ (m58 a0 45) ≤ 96 := zi_rd hIm58 hc0 zb_28_45
              have r70 : 0 ≤ (m58 a0 47) ∧ (m58 a0 47) ≤ 8 := zi_rd hIm58 hc0 zb_28_47
              have r71 : (-2147483648) ≤ (m58 a0 4) ∧ (m58 a0 4) ≤ 2147483647 := zi_rd hIm58 hc0 zb_28_4
              have r72 : 0 ≤ (m58 a0 8) ∧ (m58 a0 8) ≤ 6 := zi_rd hIm58 hc0 zb_28_8
              have hM : (7 * (700 - (m58 a0 7)) + (m58 a0 8)) * 1 + 0 < (k : Int) := by omega
              exact ih  m58 hIm58 hFm58 (by omega) (by omega) (by omega) (by omega) (by omega) (by omega) hRKNm58 hRNSm58 hRTRm58 hRWDm58 hM
            · refine zw_b (by omega) ?_
              have r73 : 0 ≤ (m58 a0 7) ∧ (m58 a0 7) ≤ 700 := zi_rd hIm58 hc0 zb_28_7
              have r74 : 0 ≤ (m58 a0 21) ∧ (m58 a0 21) ≤ 64 := zi_rd hIm58 hc0 zb_28_21
              have r75 : 0 ≤ (m58 a0 48) ∧ (m58 a0 48) ≤ 64 := zi_rd hIm58 hc0 zb_28_48
              have r76 : (-2147483648) ≤ (m58 a0 4) ∧ (m58 a0 4) ≤ 2147483647 := zi_rd hIm58 hc0 zb_28_4
              exact zw_some ⟨hIm58, hFm58, hRKNm58, hRNSm58, hRTRm58, hRWDm58, ⟨by omega, by omega⟩, by omega, by omega, by omega, by omega⟩
          · refine zw_bd (zw_mono (zk_116 n hImh hc0 ⟨by omega, by omega⟩ (by omega) (by omega) (by omega) (by omega) hRKNmh hRNSmh hRTRmh hRWDmh) (fun v78 m77 hqm77 => ?_))
            obtain ⟨hIm77, hfm77, hvm77⟩ := hqm77
            have hFm77 := zfr_tr hFmh hfm77 rfl
            obtain ⟨hRKNm77, hRNSm77, hRTRm77, hRWDm77, hvm77⟩ := hvm77
            have g79 := zwt_bd hIm77 hc0
            have s80 := hRNSm77 a0 hc0
            have s81 := hRTRm77 a0 hc0
            refine zw_ite (fun h82 => ?_) (fun h82 => ?_)
            · refine zw_b (by omega) ?_
              have r83 : 0 ≤ (m77 a0 7) ∧ (m77 a0 7) ≤ 700 := zi_rd hIm77 hc0 zb_28_7
              have r84 : 0 ≤ (m77 a0 21) ∧ (m77 a0 21) ≤ 64 := zi_rd hIm77 hc0 zb_28_21
              have r85 : 0 ≤ (m77 a0 48) ∧ (m77 a0 48) ≤ 64 := zi_rd hIm77 hc0 zb_28_48
              have r86 : (-2147483648) ≤ (m77 a0 4) ∧ (m77 a0 4) ≤ 2147483647 := zi_rd hIm77 hc0 zb_28_4
              exact zw_some ⟨hIm77, hFm77, hRKNm77, hRNSm77, hRTRm77, hRWDm77, ⟨by omega, by omega⟩, by omega, by omega, by omega, by omega⟩
            · have r87 : 0 ≤ (m77 a0 7) ∧ (m77 a0 7) ≤ 700 := zi_rd hIm77 hc0 zb_28_7
              have r88 : 0 ≤ (m77 a0 21) ∧ (m77 a0 21) ≤ 64 := zi_rd hIm77 hc0 zb_28_21
              have r89 : 0 ≤ (m77 a0 48) ∧ (m77 a0 48) ≤ 64 := zi_rd hIm77 hc0 zb_28_48
              have r90 : 0 ≤ (m77 a0 46) ∧ (m77 a0 46) ≤ 96 := zi_rd hIm77 hc0 zb_28_46
              have r91 : 0 ≤ (m77 a0 49) ∧ (m77 a0 49) ≤ 1 := zi_rd hIm77 hc0 zb_28_49
              have r92 : 0 ≤ (m77 a0 45) ∧ (m77 a0 45) ≤ 96 := zi_rd hIm77 hc0 zb_28_45
              have r93 : 0 ≤ (m77 a0 47) ∧ (m77 a0 47) ≤ 8 := zi_rd hIm77 hc0 zb_28_47
              have r94 : (-2147483648) ≤ (m77 a0 4) ∧ (m77 a0 4) ≤ 2147483647 := zi_rd hIm77 hc0 zb_28_4
              have r95 : 0 ≤ (m77 a0 8) ∧ (m77 a0 8) ≤ 6 := zi_rd hIm77 hc0 zb_28_8
              have hM : (7 * (700 - (m77 a0 7)) + (m77 a0 8)) * 1 + 0 < (k : Int) := by omega
              exact ih  m77 hIm77 hFm77 (by omega) (by omega) (by omega) (by omega) (by omega) (by omega) hRKNm77 hRNSm77 hRTRm77 hRWDm77 hM
        · exfalso; omega
      · refine zw_b (by omega) ?_
        refine zw_some ?_
        refine zw_ite (fun h96 => ?_) (fun h96 => ?_)
        · exfalso; omega
        · refine zw_ite (fun h97 => ?_) (fun h97 => ?_)
          · refine zw_ite (fun h98 => ?_) (fun h98 => ?_)
            · exfalso; omega
            · refine zw_bd (zw_mono (zk_116 n hImh hc0 ⟨by omega, by omega⟩ (by omega) (by omega) (by omega) (by omega) hRKNmh hRNSmh hRTRmh hRWDmh) (fun v100 m99 hqm99 => ?_))
              obtain ⟨hIm99, hfm99, hvm99⟩ := hqm99
              have hFm99 := zfr_tr hFmh hfm99 rfl
              obtain ⟨hRKNm99, hRNSm99, hRTRm99, hRWDm99, hvm99⟩ := hvm99
              have g101 := zwt_bd hIm99 hc0
              have s102 := hRNSm99 a0 hc0
              have s103 := hRTRm99 a0 hc0
              refine zw_ite (fun h104 => ?_) (fun h104 => ?_)
              · refine zw_b (by omega) ?_
                have r105 : 0 ≤ (m99 a0 7) ∧ (m99 a0 7) ≤ 700 := zi_rd hIm99 hc0 zb_28_7
                have r106 : 0 ≤ (m99 a0 21) ∧ (m99 a0 21) ≤ 64 := zi_rd hIm99 hc0 zb_28_21
                have r107 : 0 ≤ (m99 a0 48) ∧ (m99 a0 48) ≤ 64 := zi_rd hIm99 hc0 zb_28_48
                have r108 : (-2147483648) ≤ (m99 a0 4) ∧ (m99 a0 4) ≤ 2147483647 := zi_rd hIm99 hc0 zb_28_4
                exact zw_some ⟨hIm99, hFm99, hRKNm99, hRNSm99, hRTRm99, hRWDm99, ⟨by omega, by omega⟩, by omega, by omega, by omega, by omega⟩
              · have r109 : 0 ≤ (m99 a0 7) ∧ (m99 a0 7) ≤ 700 := zi_rd hIm99 hc0 zb_28_7
                have r110 : 0 ≤ (m99 a0 21) ∧ (m99 a0 21) ≤ 64 := zi_rd hIm99 hc0 zb_28_21
                have r111 : 0 ≤ (m99 a0 48) ∧ (m99 a0 48) ≤ 64 := zi_rd hIm99 hc0 zb_28_48
                have r112 : 0 ≤ (m99 a0 46) ∧ (m99 a0 46) ≤ 96 := zi_rd hIm99 hc0 zb_28_46
                have r113 : 0 ≤ (m99 a0 49) ∧ (m99 a0 49) ≤ 1 := zi_rd hIm99 hc0 zb_28_49
                have r114 : 0 ≤ (m99 a0 45) ∧ (m99 a0 45) ≤ 96 := zi_rd hIm99 hc0 zb_28_45
                have r115 : 0 ≤ (m99 a0 47) ∧ (m99 a0 47) ≤ 8 := zi_rd hIm99 hc0 zb_28_47
                have r116 : (-2147483648) ≤ (m99 a0 4) ∧ (m99 a0 4) ≤ 2147483647 := zi_rd hIm99 hc0 zb_28_4
                have r117 : 0 ≤ (m99 a0 8) ∧ (m99 a0 8) ≤ 6 := zi_rd hIm99 hc0 zb_28_8
                have hM : (7 * (700 - (m99 a0 7)) + (m99 a0 8)) * 1 + 0 < (k : Int) := by omega
                exact ih  m99 hIm99 hFm99 (by omega) (by omega) (by omega) (by omega) (by omega) (by omega) hRKNm99 hRNSm99 hRTRm99 hRWDm99 hM
          · refine zw_ite (fun h118 => ?_) (fun h118 => ?_)
            · refine zw_bd (zw_mono (zk_112 n hImh hc0 ⟨by omega, by omega⟩ (by omega) (by omega) (by omega) hRKNmh) (fun v120 m119 hqm119 => ?_))
              obtain ⟨hIm119, hfm119, hvm119⟩ := hqm119
              have hFm119 := zfr_tr hFmh hfm119 rfl
              obtain ⟨hRKNm119, hvm119⟩ := hvm119
              have hRNSm119 := zR_NS_fr (zdis_fr hfm119 rfl) hRNSmh
              have hRTRm119 := zR_TR_fr (zdis_fr hfm119 rfl) hRTRmh
              have hRWDm119 := zR_WD_fr (zdis_fr hfm119 rfl) hRWDmh
              have g121 := zwt_bd hIm119 hc0
              have s122 := hRNSm119 a0 hc0
              have s123 := hRTRm119 a0 hc0
              refine zw_b (by omega) ?_
              have r124 : 0 ≤ (m119 a0 45) ∧ (m119 a0 45) ≤ 96 := zi_rd hIm119 hc0 zb_28_45
              have g125 := zwt_top hIm119 hc0
              have r126 : 0 ≤ (m119 a0 7) ∧ (m119 a0 7) ≤ 700 := zi_rd hIm119 hc0 zb_28_7
              have e127 : (m119 a0 7) = (mh a0 7) := (zfr_ap hfm119 hc0 rfl)
              have r128 : 0 ≤ (m119 a0 21) ∧ (m119 a0 21) ≤ 64 := zi_rd hIm119 hc0 zb_28_21
              have r129 : 0 ≤ (m119 a0 48) ∧ (m119 a0 48) ≤ 64 := zi_rd hIm119 hc0 zb_28_48
              have e130 : (m119 a0 48) = (mh a0 48) := (zfr_ap hfm119 hc0 rfl)
              have r131 : (-2147483648) ≤ (m119 a0 4) ∧ (m119 a0 4) ≤ 2147483647 := zi_rd hIm119 hc0 zb_28_4
              have e132 : (m119 a0 4) = (mh a0 4) := (zfr_ap hfm119 hc0 rfl)
              exact zw_some ⟨hIm119, hFm119, hRKNm119, hRNSm119, hRTRm119, hRWDm119, ⟨by omega, by omega⟩, by omega, by omega, by omega, by omega⟩
            · refine zw_ite (fun h133 => ?_) (fun h133 => ?_)
              · refine zw_bd (zw_mono (zk_117 n hImh hc0 ⟨by omega, by omega⟩ (by omega) (by omega) (by omega) (by omega) (by omega) hRKNmh hRNSmh hRTRmh hRWDmh) (fun v135 m134 hqm134 => ?_))
                obtain ⟨hIm134, hfm134, hvm134⟩ := hqm134
                have hFm134 := zfr_tr hFmh hfm134 rfl
                obtain ⟨hRKNm134, hRNSm134, hRTRm134, hRWDm134, hvm134⟩ := hvm134
                have g136 := zwt_bd hIm134 hc0
                have s137 := hRNSm134 a0 hc0
                have s138 := hRTRm134 a0 hc0
                refine zw_ite (fun h139 => ?_) (fun h139 => ?_)
                · have r140 : 0 ≤ (m134 a0 7) ∧ (m134 a0 7) ≤ 700 := zi_rd hIm134 hc0 zb_28_7
                  have r141 : 0 ≤ (m134 a0 21) ∧ (m134 a0 21) ≤ 64 := zi_rd hIm134 hc0 zb_28_21
                  have r142 : 0 ≤ (m134 a0 48) ∧ (m134 a0 48) ≤ 64 := zi_rd hIm134 hc0 zb_28_48
                  have r143 : 0 ≤ (m134 a0 46) ∧ (m134 a0 46) ≤ 96 := zi_rd hIm134 hc0 zb_28_46
                  have r144 : 0 ≤ (m134 a0 49) ∧ (m134 a0 49) ≤ 1 := zi_rd hIm134 hc0 zb_28_49
                  have r145 : 0 ≤ (m134 a0 45) ∧ (m134 a0 45) ≤ 96 := zi_rd hIm134 hc0 zb_28_45
                  have r146 : 0 ≤ (m134 a0 47) ∧ (m134 a0 47) ≤ 8 := zi_rd hIm134 hc0 zb_28_47
                  have r147 : (-2147483648) ≤ (m134 a0 4) ∧ (m134 a0 4) ≤ 2147483647 := zi_rd hIm134 hc0 zb_28_4
                  have r148 : 0 ≤ (m134 a0 8) ∧ (m134 a0 8) ≤ 6 := zi_rd hIm134 hc0 zb_28_8
                  have hM : (7 * (700 - (m134 a0 7)) + (m134 a0 8)) * 1 + 0 < (k : Int) := by omega
                  exact ih  m134 hIm134 hFm134 (by omega) (by omega) (by omega) (by omega) (by omega) (by omega) hRKNm134 hRNSm134 hRTRm134 hRWDm134 hM
                · refine zw_b (by omega) ?_
                  have r149 : 0 ≤ (m134 a0 7) ∧ (m134 a0 7) ≤ 700 := zi_rd hIm134 hc0 zb_28_7
                  have r150 : 0 ≤ (m134 a0 21) ∧ (m134 a0 21) ≤ 64 := zi_rd hIm134 hc0 zb_28_21
                  have r151 : 0 ≤ (m134 a0 48) ∧ (m134 a0 48) ≤ 64 := zi_rd hIm134 hc0 zb_28_48
                  have r152 : (-2147483648) ≤ (m134 a0 4) ∧ (m134 a0 4) ≤ 2147483647 := zi_rd hIm134 hc0 zb_28_4
                  exact zw_some ⟨hIm134, hFm134, hRKNm134, hRNSm134, hRTRm134, hRWDm134, ⟨by omega, by omega⟩, by omega, by omega, by omega, by omega⟩
              · exfalso; omega
set_option maxHeartbeats 4000000 in
theorem zk_118 (n : Nat) {a0 : Int} {m0 : zu_m} (hIm0 : zi_I m0) (hc0 : zcls a0 = 28)    (hxp0 : (m0 a0 21) = (m0 a0 48)) (hRKNm0 : zR_KN m0) (hRNSm0 : zR_NS m0) (hRTRm0 : zR_TR m0) (hRWDm0 : zR_WD m0) : zw (zu_call (zt_T n) 118 [(40, a0)] m0) (fun v m => zi_I m ∧ zfr [(28, 5), (28, 6), (28, 8), (28, 9), (28, 10), (28, 11), (28, 22), (28, 46), (28, 47), (28, 48), (28, 49), (28, 50), (28, 51), (117, 0), (118, 0), (119, 0), (120, 0), (121, 0)] m0 m ∧ zR_KN m ∧ zR_NS m ∧ zR_TR m ∧ zR_WD m ∧ (0 ≤ v ∧ v ≤ 1) ∧ ((m0 a0 7) ≤ (m a0 7)) ∧ (v = 1 → ((m a0 21) = (m a0 48) ∧ 1 ≤ (m a0 21))) ∧ (v = 1 → (m a0 4) = (m0 a0 4)) ∧ (v = 0 → (m a0 4) ≠ 0)) := by
  have hFm0 : zfr [(28, 5), (28, 6), (28, 8), (28, 9), (28, 10), (28, 11), (28, 22), (28, 46), (28, 47), (28, 48), (28, 49), (28, 50), (28, 51), (117, 0), (118, 0), (119, 0), (120, 0), (121, 0)] m0 m0 := zfr_rf _ _
  have r153 : 0 ≤ (m0 a0 21) ∧ (m0 a0 21) ≤ 64 := zi_rd hIm0 hc0 zb_28_21
  have r154 : 0 ≤ (m0 a0 48) ∧ (m0 a0 48) ≤ 64 := zi_rd hIm0 hc0 zb_28_48
  have g155 := zwt_bd hIm0 hc0
  have s156 := hRNSm0 a0 hc0
  have s157 := hRTRm0 a0 hc0
  refine zw_eq (zu_call_at (zt_T n) (zm_118 n) (zdp_118 n) _ _ _ _ _ rfl (zr_118_0 n _ _ a0 m0)) ?_
  generalize hmm158 : zu_up m0 a0 45 0 = m158
  have hIm158 := zi_up hmm158 hIm0 hc0 zb_28_45 (by omega) (by omega)
  have hFm158 := zfr_up hmm158 hFm0 hc0 rfl
  have hRKNm158 := zR_KN_fr (zdis_fr (zfr_up hmm158 (zfr_rf [(28, 46)] _) hc0 rfl) rfl) hRKNm0
  have hRNSm158 := zR_NS_fr (zdis_fr (zfr_up hmm158 (zfr_rf [(28, 46)] _) hc0 rfl) rfl) hRNSm0
  have hRTRm158 := zR_TR_fr (zdis_fr (zfr_up hmm158 (zfr_rf [(28, 46)] _) hc0 rfl) rfl) hRTRm0
  have hRWDm158 := zR_WD_fr (zdis_fr (zfr_up hmm158 (zfr_rf [(28, 46)] _) hc0 rfl) rfl) hRWDm0
  have g159 := zwt_zero hmm158 hc0
  generalize hmm160 : zu_up m158 a0 46 0 = m160
  have hIm160 := zi_up hmm160 hIm158 hc0 zb_28_46 (by omega) (by omega)
  have hFm160 := zfr_up hmm160 hFm158 hc0 rfl
  have g161 := zwt_fr (zdis_fr (zfr_up hmm160 (zfr_rf [(28, 47)] _) hc0 rfl) rfl)
  have hRKNm160 := zR_KN_fr (zdis_fr (zfr_up hmm160 (zfr_rf [(28, 47)] _) hc0 rfl) rfl) hRKNm158
  have hRNSm160 := zR_NS_fr (zdis_fr (zfr_up hmm160 (zfr_rf [(28, 47)] _) hc0 rfl) rfl) hRNSm158
  have hRTRm160 := zR_TR_fr (zdis_fr (zfr_up hmm160 (zfr_rf [(28, 47)] _) hc0 rfl) rfl) hRTRm158
  have hRWDm160 := zR_WD_fr (zdis_fr (zfr_up hmm160 (zfr_rf [(28, 47)] _) hc0 rfl) rfl) hRWDm158
  generalize hmm162 : zu_up m160 a0 47 0 = m162
  have hIm162 := zi_up hmm162 hIm160 hc0 zb_28_47 (by omega) (by omega)
  have hFm162 := zfr_up hmm162 hFm160 hc0 rfl
  have g163 := zwt_fr (zdis_fr (zfr_up hmm162 (zfr_rf [(28, 48)] _) hc0 rfl) rfl)
  have hRKNm162 := zR_KN_fr (zdis_fr (zfr_up hmm162 (zfr_rf [(28, 48)] _) hc0 rfl) rfl) hRKNm160
  have hRNSm162 := zR_NS_fr (zdis_fr (zfr_up hmm162 (zfr_rf [(28, 48)] _) hc0 rfl) rfl) hRNSm160
  have hRTRm162 := zR_TR_fr (zdis_fr (zfr_up hmm162 (zfr_rf [(28, 48)] _) hc0 rfl) rfl) hRTRm160
  have hRWDm162 := zR_WD_fr (zdis_fr (zfr_up hmm162 (zfr_rf [(28, 48)] _) hc0 rfl) rfl) hRWDm160
  refine zw_b (by omega) ?_
  generalize hmm164 : zu_up m162 a0 49 1 = m164
  have hIm164 := zi_up hmm164 hIm162 hc0 zb_28_49 (by omega) (by omega)
  have hFm164 := zfr_up hmm164 hFm162 hc0 rfl
  have g165 := zwt_fr (zdis_fr (zfr_up hmm164 (zfr_rf [(28, 50)] _) hc0 rfl) rfl)
  have hRKNm164 := zR_KN_fr (zdis_fr (zfr_up hmm164 (zfr_rf [(28, 50)] _) hc0 rfl) rfl) hRKNm162
  have hRNSm164 := zR_NS_fr (zdis_fr (zfr_up hmm164 (zfr_rf [(28, 50)] _) hc0 rfl) rfl) hRNSm162
  have hRTRm164 := zR_TR_fr (zdis_fr (zfr_up hmm164 (zfr_rf [(28, 50)] _) hc0 rfl) rfl) hRTRm162
  have hRWDm164 := zR_WD_fr (zdis_fr (zfr_up hmm164 (zfr_rf [(28, 50)] _) hc0 rfl) rfl) hRWDm162
  refine zw_b (by omega) ?_
  generalize hmm166 : zu_up m164 a0 50 1 = m166
  have hIm166 := zi_up hmm166 hIm164 hc0 zb_28_50 (by omega) (by omega)
  have hFm166 := zfr_up hmm166 hFm164 hc0 rfl
  have g167 := zwt_fr (zdis_fr (zfr_up hmm166 (zfr_rf [(28, 51)] _) hc0 rfl) rfl)
  have hRKNm166 := zR_KN_fr (zdis_fr (zfr_up hmm166 (zfr_rf [(28, 51)] _) hc0 rfl) rfl) hRKNm164
  have hRNSm166 := zR_NS_fr (zdis_fr (zfr_up hmm166 (zfr_rf [(28, 51)] _) hc0 rfl) rfl) hRNSm164
  have hRTRm166 := zR_TR_fr (zdis_fr (zfr_up hmm166 (zfr_rf [(28, 51)] _) hc0 rfl) rfl) hRTRm164
  have hRWDm166 := zR_WD_fr (zdis_fr (zfr_up hmm166 (zfr_rf [(28, 51)] _) hc0 rfl) rfl) hRWDm164
  have r168 : 0 ≤ (m166 a0 7) ∧ (m166 a0 7) ≤ 700 := zi_rd hIm166 hc0 zb_28_7
  have r169 : 0 ≤ (m166 a0 21) ∧ (m166 a0 21) ≤ 64 := zi_rd hIm166 hc0 zb_28_21
  have e170 : (m166 a0 21) = (m0 a0 21) := (Eq.trans (zs_ne hmm166 (Or.inr (by decide))) (Eq.trans (zs_ne hmm164 (Or.inr (by decide))) (Eq.trans (zs_ne hmm162 (Or.inr (by decide))) (Eq.trans (zs_ne hmm160 (Or.inr (by decide))) (zs_ne hmm158 (Or.inr (by decide)))))))
  have r171 : 0 ≤ (m166 a0 48) ∧ (m166 a0 48) ≤ 64 := zi_rd hIm166 hc0 zb_28_48
  have e172 : (m166 a0 48) = (m0 a0 48) := (Eq.trans (zs_ne hmm166 (Or.inr (by decide))) (Eq.trans (zs_ne hmm164 (Or.inr (by decide))) (Eq.trans (zs_ne hmm162 (Or.inr (by decide))) (Eq.trans (zs_ne hmm160 (Or.inr (by decide))) (zs_ne hmm158 (Or.inr (by decide)))))))
  have r173 : 0 ≤ (m166 a0 46) ∧ (m166 a0 46) ≤ 96 := zi_rd hIm166 hc0 zb_28_46
  have e174 : (m166 a0 46) = 0 := (Eq.trans (zs_ne hmm166 (Or.inr (by decide))) (Eq.trans (zs_ne hmm164 (Or.inr (by decide))) (Eq.trans (zs_ne hmm162 (Or.inr (by decide))) (zs_eq hmm160))))
  have r175 : 0 ≤ (m166 a0 49) ∧ (m166 a0 49) ≤ 1 := zi_rd hIm166 hc0 zb_28_49
  have e176 : (m166 a0 49) = 1 := (Eq.trans (zs_ne hmm166 (Or.inr (by decide))) (zs_eq hmm164))
  have r177 : 0 ≤ (m166 a0 45) ∧ (m166 a0 45) ≤ 96 := zi_rd hIm166 hc0 zb_28_45
  have e178 : (m166 a0 45) = 0 := (Eq.trans (zs_ne hmm166 (Or.inr (by decide))) (Eq.trans (zs_ne hmm164 (Or.inr (by decide))) (Eq.trans (zs_ne hmm162 (Or.inr (by decide))) (Eq.trans (zs_ne hmm160 (Or.inr (by decide))) (zs_eq hmm158)))))
  have r179 : 0 ≤ (m166 a0 47) ∧ (m166 a0 47) ≤ 8 := zi_rd hIm166 hc0 zb_28_47
  have e180 : (m166 a0 47) = 0 := (Eq.trans (zs_ne hmm166 (Or.inr (by decide))) (Eq.trans (zs_ne hmm164 (Or.inr (by decide))) (zs_eq hmm162)))
  have r181 : (-2147483648) ≤ (m166 a0 4) ∧ (m166 a0 4) ≤ 2147483647 := zi_rd hIm166 hc0 zb_28_4
  have r182 : 0 ≤ (m166 a0 8) ∧ (m166 a0 8) ≤ 6 := zi_rd hIm166 hc0 zb_28_8
  have hM : (7 * (700 - (m166 a0 7)) + (m166 a0 8)) * 1 + 0 < ((4907 : Nat) : Int) := by omega
  exact (zl_118 n (m0 := m0) hc0 hxp0 4907)  m166 hIm166 hFm166 (by omega) (by omega) (by omega) (by omega) (by omega) (by omega) hRKNm166 hRNSm166 hRTRm166 hRWDm166 hM
set_option maxHeartbeats 4000000 in
theorem zk_147 (n : Nat) {a0 a1 a2 a3 : Int} {m0 : zu_m} (hIm0 : zi_I m0) (hc0 : zcls a0 = 28) (ha1 : (-2147483648) ≤ a1 ∧ a1 ≤ 2147483647) (ha2 : (-2147483648) ≤ a2 ∧ a2 ≤ 2147483647) (ha3 : (-2147483648) ≤ a3 ∧ a3 ≤ 2147483647)    (hRKNm0 : zR_KN m0) (hRLTm0 : zR_LT m0) : zw (zu_call (zt_T n) 147 [(40, a0), (0, a1), (0, a2), (0, a3)] m0) (fun v m => zi_I m ∧ zfr [(28, 3), (28, 54), (122, 0), (123, 0)] m0 m ∧ zR_KN m ∧ zR_LT m ∧ ((-9223372036854775808) ≤ v ∧ v ≤ 9223372036854775807) ∧ (0 ≤ m a0 2 ∧ m a0 2 ≤ 0)) := by
  have hFm0 : zfr [(28, 3), (28, 54), (122, 0), (123, 0)] m0 m0 := zfr_rf _ _
  refine zw_eq (zu_call_at (zt_T n) (zm_147 n) (zdp_147 n) _ _ _ _ _ rfl (zr_147_0 n _ _ a0 a1 a2 a3 m0)) ?_
  generalize hmm1 : zu_up m0 a0 2 0 = m1
  have hIm1 := zi_up hmm1 hIm0 hc0 zb_28_2 (by omega) (by omega)
  have hFm1 := zfr_up hmm1 hFm0 hc0 rfl
  have hRKNm1 := zR_KN_fr (zdis_fr (zfr_up hmm1 (zfr_rf [(28, 3)] _) hc0 rfl) rfl) hRKNm0
  have hRLTm1 := zR_LT_fr (zdis_fr (zfr_up hmm1 (zfr_rf [(28, 3)] _) hc0 rfl) rfl) hRLTm0
  refine zw_bd (zw_eq (zu_call_at (zt_T n) (zm_83 n) (zdp_83 n) _ _ _ _ _ rfl (zr_83_0 n _ _ a1 0 3 m1)) ?_)
  refine zw_ite (fun h2 => ?_) (fun h2 => ?_)
  · refine zw_b (by omega) ?_
    refine zw_some ?_
    refine zw_ite (fun h3 => ?_) (fun h3 => ?_)
    · exfalso; omega
    · have r4 : (-2147483648) ≤ (m1 a0 2) ∧ (m1 a0 2) ≤ 2147483647 := zi_rd hIm1 hc0 zb_28_2
      have e5 : (m1 a0 2) = 0 := (zs_eq hmm1)
      exact zw_some ⟨hIm1, hFm1, hRKNm1, hRLTm1, ⟨by omega, by omega⟩, ⟨by omega, by omega⟩⟩
  · refine zw_ite (fun h6 => ?_) (fun h6 => ?_)
    · refine zw_b (by omega) ?_
      refine zw_some ?_
      refine zw_ite (fun h7 => ?_) (fun h7 => ?_)
      · exfalso; omega
      · have r8 : (-2147483648) ≤ (m1 a0 2) ∧ (m1 a0 2) ≤ 2147483647 := zi_rd hIm1 hc0 zb_28_2
        have e9 : (m1 a0 2) = 0 := (zs_eq hmm1)
        exact zw_some ⟨hIm1, hFm1, hRKNm1, hRLTm1, ⟨by omega, by omega⟩, ⟨by omega, by omega⟩⟩
    · refine zw_b (by omega) ?_
      refine zw_some ?_
      refine zw_ite (fun h10 => ?_) (fun h10 => ?_)
      · refine zw_ite (fun h11 => ?_) (fun h11 => ?_)
        · refine zw_ite (fun h12 => ?_) (fun h12 => ?_)
          · refine zw_bd (zw_eq (zu_call_at (zt_T n) (zm_124 n) (zdp_124 n) _ _ _ _ _ rfl (zr_124_0 n _ _ a0 a2 m1)) ?_)
            refine zw_ite (fun h13 => ?_) (fun h13 => ?_)
            · refine zw_b (by omega) ?_
              refine zw_some ?_
              refine zw_ite (fun h14 => ?_) (fun h14 => ?_)
              · exfalso; omega
              · have r15 : (-2147483648) ≤ (m1 a0 2) ∧ (m1 a0 2) ≤ 2147483647 := zi_rd hIm1 hc0 zb_28_2
                have e16 : (m1 a0 2) = 0 := (zs_eq hmm1)
                exact zw_some ⟨hIm1, hFm1, hRKNm1, hRLTm1, ⟨by omega, by omega⟩, ⟨by omega, by omega⟩⟩
            · have b17 : 0 ≤ (0 : Int) ∧ (0 : Int) < 2 := by omega
              refine zw_if b17 ?_
              have r18 : 0 ≤ (m1 216 0) ∧ (m1 216 0) ≤ 16 := zi_rdr (m := 2) (r0 := 0) (r1 := 0) hIm1 zq_216 (by omega) (by decide +kernel)
              refine zw_ite (fun h19 => ?_) (fun h19 => ?_)
              · refine zw_b (by omega) ?_
                refine zw_some ?_
                refine zw_ite (fun h20 => ?_) (fun h20 => ?_)
                · exfalso; omega
                · have r21 : (-2147483648) ≤ (m1 a0 2) ∧ (m1 a0 2) ≤ 2147483647 := zi_rd hIm1 hc0 zb_28_2
                  have e22 : (m1 a0 2) = 0 := (zs_eq hmm1)
                  exact zw_some ⟨hIm1, hFm1, hRKNm1, hRLTm1, ⟨by omega, by omega⟩, ⟨by omega, by omega⟩⟩
              · refine zw_b (by omega) ?_
                refine zw_some ?_
                refine zw_ite (fun h23 => ?_) (fun h23 => ?_)
                · refine zw_ite (fun h24 => ?_) (fun h24 => ?_)
                  · refine zw_ite (fun h25 => ?_) (fun h25 => ?_)
                    · refine zw_ite (fun h26 => ?_) (fun h26 => ?_)
                      · have b27 : 0 ≤ (3 : Int) ∧ (3 : Int) < 8 := by omega
                        refine zw_if b27 ?_
                        have r28 : 0 ≤ (m1 205 3) ∧ (m1 205 3) ≤ 1 := zi_rd hIm1 zq_205 (zb_114 _)
                        refine zw_ite (fun h29 => ?_) (fun h29 => ?_)
                        · refine zw_ite (fun h30 => ?_) (fun h30 => ?_)
                          · refine zw_ite (fun h31 => ?_) (fun h31 => ?_)
                            · have b32 : 0 ≤ a2 ∧ a2 < 36 := by omega
                              refine zw_if b32 ?_
                              have r33 : 0 ≤ (m1 199 a2) ∧ (m1 199 a2) ≤ 9 := zi_rd hIm1 zq_199 (zb_108 _)
                              have b34 : 0 ≤ a2 ∧ a2 < 36 := by omega
                              refine zw_if b34 ?_
                              have r35 : 0 ≤ (m1 197 a2) ∧ (m1 197 a2) ≤ 47 := zi_rd hIm1 zq_197 (zb_106 _)
                              have b36 : 0 ≤ a2 ∧ a2 < 36 := by omega
                              refine zw_if b36 ?_
                              have r37 : 0 ≤ (m1 198 a2) ∧ (m1 198 a2) ≤ 3 := zi_rd hIm1 zq_198 (zb_107 _)
                              have b38 : 0 ≤ (0 : Int) ∧ (0 : Int) < 2 := by omega
                              refine zw_if b38 ?_
                              have r39 : (-2147483648) ≤ (m1 221 0) ∧ (m1 221 0) ≤ 2147483647 := zi_rd hIm1 zq_221 (zb_130 _)
                              refine zw_bd (zw_mono (zk_38 n hIm1 hc0 ⟨by omega, by omega⟩ ⟨by omega, by omega⟩ ⟨by omega, by omega⟩ ⟨by omega, by omega⟩ ⟨by omega, by omega⟩ ⟨by omega, by omega⟩) (fun v41 m40 hqm40 => ?_))
                              obtain ⟨hIm40, hfm40, hvm40⟩ := hqm40
                              have hFm40 := zfr_tr hFm1 hfm40 rfl
                              have hRKNm40 := zR_KN_fr (zdis_fr hfm40 rfl) hRKNm1
                              have hRLTm40 := zR_LT_fr (zdis_fr hfm40 rfl) hRLTm1
                              have r42 : 0 ≤ (m40 205 3) ∧ (m40 205 3) ≤ 1 := zi_rd hIm40 zq_205 (zb_114 _)
                              have e43 : (m40 205 3) = (m1 205 3) := (zfr_ap hfm40 zq_205 rfl)
                              refine zw_bd (zw_mono (zk_127 n hIm40 hc0 ⟨by omega, by omega⟩ (by omega) hRKNm40 hRLTm40) (fun v45 m44 hqm44 => ?_))
                              obtain ⟨hIm44, hfm44, hvm44⟩ := hqm44
                              have hFm44 := zfr_tr hFm40 hfm44 rfl
                              obtain ⟨hRKNm44, hRLTm44, hvm44⟩ := hvm44
                              have r46 : 0 ≤ (m44 a0 53) ∧ (m44 a0 53) ≤ 1 := zi_rd hIm44 hc0 zb_28_53
                              refine zw_ite (fun h47 => ?_) (fun h47 => ?_)
                              · have r48 : (-2147483648) ≤ (m44 a0 2) ∧ (m44 a0 2) ≤ 2147483647 := zi_rd hIm44 hc0 zb_28_2
                                have e49 : (m44 a0 2) = 0 := (Eq.trans (zfr_ap hfm44 hc0 rfl) (Eq.trans (zfr_ap hfm40 hc0 rfl) (zs_eq hmm1)))
                                exact zw_some ⟨hIm44, hFm44, hRKNm44, hRLTm44, ⟨by omega, by omega⟩, ⟨by omega, by omega⟩⟩
                              · have r50 : (-2147483648) ≤ (m44 a0 2) ∧ (m44 a0 2) ≤ 2147483647 := zi_rd hIm44 hc0 zb_28_2
                                have e51 : (m44 a0 2) = 0 := (Eq.trans (zfr_ap hfm44 hc0 rfl) (Eq.trans (zfr_ap hfm40 hc0 rfl) (zs_eq hmm1)))
                                exact zw_some ⟨hIm44, hFm44, hRKNm44, hRLTm44, ⟨by omega, by omega⟩, ⟨by omega, by omega⟩⟩
                            · exfalso; omega
                          · exfalso; omega
                        · have r52 : (-2147483648) ≤ (m1 a0 2) ∧ (m1 a0 2) ≤ 2147483647 := zi_rd hIm1 hc0 zb_28_2
                          have e53 : (m1 a0 2) = 0 := (zs_eq hmm1)
                          exact zw_some ⟨hIm1, hFm1, hRKNm1, hRLTm1, ⟨by omega, by omega⟩, ⟨by omega, by omega⟩⟩
                      · exfalso; omega
                    · exfalso; omega
                  · exfalso; omega
                · exfalso; omega
          · refine zw_bd (zw_eq (zu_call_at (zt_T n) (zm_123 n) (zdp_123 n) _ _ _ _ _ rfl (zr_123_0 n _ _ a0 a2 m1)) ?_)
            refine zw_ite (fun h54 => ?_) (fun h54 => ?_)
            · refine zw_b (by omega) ?_
              refine zw_some ?_
              refine zw_ite (fun h55 => ?_) (fun h55 => ?_)
              · exfalso; omega
              · have r56 : (-2147483648) ≤ (m1 a0 2) ∧ (m1 a0 2) ≤ 2147483647 := zi_rd hIm1 hc0 zb_28_2
                have e57 : (m1 a0 2) = 0 := (zs_eq hmm1)
                exact zw_some ⟨hIm1, hFm1, hRKNm1, hRLTm1, ⟨by omega, by omega⟩, ⟨by omega, by omega⟩⟩
            · refine zw_bd (zw_eq (zu_call_at (zt_T n) (zm_36 n) (zdp_36 n) _ _ _ _ _ rfl (zr_36_0 n _ _ a0 m1)) ?_)
              have r58 : 1 ≤ (m1 a0 12) ∧ (m1 a0 12) ≤ 8 := zi_rd hIm1 hc0 zb_28_12
              have r59 : 1 ≤ (m1 a0 13) ∧ (m1 a0 13) ≤ 6 := zi_rd hIm1 hc0 zb_28_13
              have p60 := zmul_bd (x := (m1 a0 12)) (y := (m1 a0 13)) (a := 1) (b := 1) (A := 8) (B := 6) (by omega) (by omega) (by omega) (by omega) (by omega) (by omega)
              have w61 := zu_w32_id (z := (m1 a0 12) * (m1 a0 13)) (by omega) (by omega)
              refine zw_some ?_
              refine zw_ite (fun h62 => ?_) (fun h62 => ?_)
              · refine zw_b (by omega) ?_
                refine zw_some ?_
                refine zw_ite (fun h63 => ?_) (fun h63 => ?_)
                · exfalso; omega
                · have r64 : (-2147483648) ≤ (m1 a0 2) ∧ (m1 a0 2) ≤ 2147483647 := zi_rd hIm1 hc0 zb_28_2
                  have e65 : (m1 a0 2) = 0 := (zs_eq hmm1)
                  exact zw_some ⟨hIm1, hFm1, hRKNm1, hRLTm1, ⟨by omega, by omega⟩, ⟨by omega, by omega⟩⟩
              · refine zw_b (by omega) ?_
                refine zw_some ?_
                refine zw_ite (fun h66 => ?_) (fun h66 => ?_)
                · refine zw_ite (fun h67 => ?_) (fun h67 => ?_)
                  · refine zw_ite (fun h68 => ?_) (fun h68 => ?_)
                    · refine zw_ite (fun h69 => ?_) (fun h69 => ?_)
                      · exfalso; omega
                      · have b70 : 0 ≤ (1 : Int) ∧ (1 : Int) < 8 := by omega
                        refine zw_if b70 ?_
                        have r71 : 0 ≤ (m1 205 1) ∧ (m1 205 1) ≤ 1 := zi_rd hIm1 zq_205 (zb_114 _)
                        refine zw_ite (fun h72 => ?_) (fun h72 => ?_)
                        · refine zw_ite (fun h73 => ?_) (fun h73 => ?_)
                          · refine zw_ite (fun h74 => ?_) (fun h74 => ?_)
                            · exfalso; omega
                            · refine zw_bd (zw_mono (zk_38 n hIm1 hc0 ⟨by omega, by omega⟩ ⟨by omega, by omega⟩ ⟨by omega, by omega⟩ ⟨by omega, by omega⟩ ⟨by omega, by omega⟩ ⟨by omega, by omega⟩) (fun v76 m75 hqm75 => ?_))
                              obtain ⟨hIm75, hfm75, hvm75⟩ := hqm75
                              have hFm75 := zfr_tr hFm1 hfm75 rfl
                              have hRKNm75 := zR_KN_fr (zdis_fr hfm75 rfl) hRKNm1
                              have hRLTm75 := zR_LT_fr (zdis_fr hfm75 rfl) hRLTm1
                              have r77 : 0 ≤ (m75 205 1) ∧ (m75 205 1) ≤ 1 := zi_rd hIm75 zq_205 (zb_114 _)
                              have e78 : (m75 205 1) = (m1 205 1) := (zfr_ap hfm75 zq_205 rfl)
                              refine zw_bd (zw_mono (zk_127 n hIm75 hc0 ⟨by omega, by omega⟩ (by omega) hRKNm75 hRLTm75) (fun v80 m79 hqm79 => ?_))
                              obtain ⟨hIm79, hfm79, hvm79⟩ := hqm79
                              have hFm79 := zfr_tr hFm75 hfm79 rfl
                              obtain ⟨hRKNm79, hRLTm79, hvm79⟩ := hvm79
                              have r81 : 0 ≤ (m79 a0 53) ∧ (m79 a0 53) ≤ 1 := zi_rd hIm79 hc0 zb_28_53
                              refine zw_ite (fun h82 => ?_) (fun h82 => ?_)
                              · have r83 : (-2147483648) ≤ (m79 a0 2) ∧ (m79 a0 2) ≤ 2147483647 := zi_rd hIm79 hc0 zb_28_2
                                have e84 : (m79 a0 2) = 0 := (Eq.trans (zfr_ap hfm79 hc0 rfl) (Eq.trans (zfr_ap hfm75 hc0 rfl) (zs_eq hmm1)))
                                exact zw_some ⟨hIm79, hFm79, hRKNm79, hRLTm79, ⟨by omega, by omega⟩, ⟨by omega, by omega⟩⟩
                              · have r85 : (-2147483648) ≤ (m79 a0 2) ∧ (m79 a0 2) ≤ 2147483647 := zi_rd hIm79 hc0 zb_28_2
                                have e86 : (m79 a0 2) = 0 := (Eq.trans (zfr_ap hfm79 hc0 rfl) (Eq.trans (zfr_ap hfm75 hc0 rfl) (zs_eq hmm1)))
                                exact zw_some ⟨hIm79, hFm79, hRKNm79, hRLTm79, ⟨by omega, by omega⟩, ⟨by omega, by omega⟩⟩
                          · exfalso; omega
                        · have r87 : (-2147483648) ≤ (m1 a0 2) ∧ (m1 a0 2) ≤ 2147483647 := zi_rd hIm1 hc0 zb_28_2
                          have e88 : (m1 a0 2) = 0 := (zs_eq hmm1)
                          exact zw_some ⟨hIm1, hFm1, hRKNm1, hRLTm1, ⟨by omega, by omega⟩, ⟨by omega, by omega⟩⟩
                    · exfalso; omega
                  · exfalso; omega
                · exfalso; omega
        · refine zw_bd (zw_eq (zu_call_at (zt_T n) (zm_125 n) (zdp_125 n) _ _ _ _ _ rfl (zr_125_0 n _ _ a0 a2 m1)) ?_)
          refine zw_ite (fun h89 => ?_) (fun h89 => ?_)
          · refine zw_b (by omega) ?_
            refine zw_some ?_
            refine zw_ite (fun h90 => ?_) (fun h90 => ?_)
            · have r91 : (-2147483648) ≤ (m1 a0 2) ∧ (m1 a0 2) ≤ 2147483647 := zi_rd hIm1 hc0 zb_28_2
              have e92 : (m1 a0 2) = 0 := (zs_eq hmm1)
              exact zw_some ⟨hIm1, hFm1, hRKNm1, hRLTm1, ⟨by omega, by omega⟩, ⟨by omega, by omega⟩⟩
            · exfalso; omega
          · have r93 : 0 ≤ (m1 a0 15) ∧ (m1 a0 15) ≤ 4 := zi_rd hIm1 hc0 zb_28_15
            refine zw_ite (fun h94 => ?_) (fun h94 => ?_)
            · refine zw_b (by omega) ?_
              refine zw_some ?_
              refine zw_ite (fun h95 => ?_) (fun h95 => ?_)
              · have r96 : (-2147483648) ≤ (m1 a0 2) ∧ (m1 a0 2) ≤ 2147483647 := zi_rd hIm1 hc0 zb_28_2
                have e97 : (m1 a0 2) = 0 := (zs_eq hmm1)
                exact zw_some ⟨hIm1, hFm1, hRKNm1, hRLTm1, ⟨by omega, by omega⟩, ⟨by omega, by omega⟩⟩
              · exfalso; omega
            · refine zw_b (by omega) ?_
              refine zw_some ?_
              refine zw_ite (fun h98 => ?_) (fun h98 => ?_)
              · exfalso; omega
              · refine zw_bd (zw_eq (zu_call_at (zt_T n) (zm_124 n) (zdp_124 n) _ _ _ _ _ rfl (zr_124_0 n _ _ a0 a3 m1)) ?_)
                refine zw_ite (fun h99 => ?_) (fun h99 => ?_)
                · refine zw_b (by omega) ?_
                  refine zw_some ?_
                  refine zw_ite (fun h100 => ?_) (fun h100 => ?_)
                  · exfalso; omega
                  · have r101 : (-2147483648) ≤ (m1 a0 2) ∧ (m1 a0 2) ≤ 2147483647 := zi_rd hIm1 hc0 zb_28_2
                    have e102 : (m1 a0 2) = 0 := (zs_eq hmm1)
                    exact zw_some ⟨hIm1, hFm1, hRKNm1, hRLTm1, ⟨by omega, by omega⟩, ⟨by omega, by omega⟩⟩
                · have b103 : 0 ≤ (0 : Int) ∧ (0 : Int) < 2 := by omega
                  refine zw_if b103 ?_
                  have r104 : 0 ≤ (m1 216 0) ∧ (m1 216 0) ≤ 16 := zi_rdr (m := 2) (r0 := 0) (r1 := 0) hIm1 zq_216 (by omega) (by decide +kernel)
                  refine zw_ite (fun h105 => ?_) (fun h105 => ?_)
                  · refine zw_b (by omega) ?_
                    refine zw_some ?_
                    refine zw_ite (fun h106 => ?_) (fun h106 => ?_)
                    · exfalso; omega
                    · have r107 : (-2147483648) ≤ (m1 a0 2) ∧ (m1 a0 2) ≤ 2147483647 := zi_rd hIm1 hc0 zb_28_2
                      have e108 : (m1 a0 2) = 0 := (zs_eq hmm1)
                      exact zw_some ⟨hIm1, hFm1, hRKNm1, hRLTm1, ⟨by omega, by omega⟩, ⟨by omega, by omega⟩⟩
                  · refine zw_b (by omega) ?_
                    refine zw_some ?_
                    refine zw_ite (fun h109 => ?_) (fun h109 => ?_)
                    · refine zw_ite (fun h110 => ?_) (fun h110 => ?_)
                      · refine zw_ite (fun h111 => ?_) (fun h111 => ?_)
                        · exfalso; omega
                        · have b112 : 0 ≤ (2 : Int) ∧ (2 : Int) < 8 := by omega
                          refine zw_if b112 ?_
                          have r113 : 0 ≤ (m1 205 2) ∧ (m1 205 2) ≤ 1 := zi_rd hIm1 zq_205 (zb_114 _)
                          refine zw_ite (fun h114 => ?_) (fun h114 => ?_)
                          · refine zw_ite (fun h115 => ?_) (fun h115 => ?_)
                            · exfalso; omega
                            · have b116 : 0 ≤ a2 ∧ a2 < 8 := by omega
                              refine zw_if b116 ?_
                              have r117 : 0 ≤ (m1 202 a2) ∧ (m1 202 a2) ≤ 15 := zi_rd hIm1 zq_202 (zb_111 _)
                              have b118 : 0 ≤ a3 ∧ a3 < 36 := by omega
                              refine zw_if b118 ?_
                              have r119 : 0 ≤ (m1 199 a3) ∧ (m1 199 a3) ≤ 9 := zi_rd hIm1 zq_199 (zb_108 _)
                              have b120 : 0 ≤ a3 ∧ a3 < 36 := by omega
                              refine zw_if b120 ?_
                              have r121 : 0 ≤ (m1 197 a3) ∧ (m1 197 a3) ≤ 47 := zi_rd hIm1 zq_197 (zb_106 _)
                              have b122 : 0 ≤ a3 ∧ a3 < 36 := by omega
                              refine zw_if b122 ?_
                              have r123 : 0 ≤ (m1 198 a3) ∧ (m1 198 a3) ≤ 3 := zi_rd hIm1 zq_198 (zb_107 _)
                              have b124 : 0 ≤ a3 ∧ a3 < 36 := by omega
                              refine zw_if b124 ?_
                              refine zw_nif (by omega) ?_
                              have d125 : Int.tmod a2 4 = a2 % 4 := Int.tmod_eq_emod_of_nonneg (by omega)
                              refine zw_ite (fun h126 => ?_) (fun h126 => ?_)
                              · refine zw_ite (fun h127 => ?_) (fun h127 => ?_)
                                · refine zw_bd (zw_mono (zk_38 n hIm1 hc0 ⟨by omega, by omega⟩ ⟨by omega, by omega⟩ ⟨by omega, by omega⟩ ⟨by omega, by omega⟩ ⟨by omega, by omega⟩ ⟨by omega, by omega⟩) (fun v129 m128 hqm128 => ?_))
                                  obtain ⟨hIm128, hfm128, hvm128⟩ := hqm128
                                  have hFm128 := zfr_tr hFm1 hfm128 rfl
                                  have hRKNm128 := zR_KN_fr (zdis_fr hfm128 rfl) hRKNm1
                                  have hRLTm128 := zR_LT_fr (zdis_fr hfm128 rfl) hRLTm1
                                  have r130 : 0 ≤ (m128 205 2) ∧ (m128 205 2) ≤ 1 := zi_rd hIm128 zq_205 (zb_114 _)
                                  have e131 : (m128 205 2) = (m1 205 2) := (zfr_ap hfm128 zq_205 rfl)
                                  refine zw_bd (zw_mono (zk_127 n hIm128 hc0 ⟨by omega, by omega⟩ (by omega) hRKNm128 hRLTm128) (fun v133 m132 hqm132 => ?_))
                                  obtain ⟨hIm132, hfm132, hvm132⟩ := hqm132
                                  have hFm132 := zfr_tr hFm128 hfm132 rfl
                                  obtain ⟨hRKNm132, hRLTm132, hvm132⟩ := hvm132
                                  have r134 : 0 ≤ (m132 a0 53) ∧ (m132 a0 53) ≤ 1 := zi_rd hIm132 hc0 zb_28_53
                                  refine zw_ite (fun h135 => ?_) (fun h135 => ?_)
                                  · have r136 : (-2147483648) ≤ (m132 a0 2) ∧ (m132 a0 2) ≤ 2147483647 := zi_rd hIm132 hc0 zb_28_2
                                    have e137 : (m132 a0 2) = 0 := (Eq.trans (zfr_ap hfm132 hc0 rfl) (Eq.trans (zfr_ap hfm128 hc0 rfl) (zs_eq hmm1)))
                                    exact zw_some ⟨hIm132, hFm132, hRKNm132, hRLTm132, ⟨by omega, by omega⟩, ⟨by omega, by omega⟩⟩
                                  · have r138 : (-2147483648) ≤ (m132 a0 2) ∧ (m132 a0 2) ≤ 2147483647 := zi_rd hIm132 hc0 zb_28_2
                                    have e139 : (m132 a0 2) = 0 := (Eq.trans (zfr_ap hfm132 hc0 rfl) (Eq.trans (zfr_ap hfm128 hc0 rfl) (zs_eq hmm1)))
                                    exact zw_some ⟨hIm132, hFm132, hRKNm132, hRLTm132, ⟨by omega, by omega⟩, ⟨by omega, by omega⟩⟩
                                · exfalso; omega
                              · refine zw_ite (fun h140 => ?_) (fun h140 => ?_)
                                · refine zw_bd (zw_mono (zk_38 n hIm1 hc0 ⟨by omega, by omega⟩ ⟨by omega, by omega⟩ ⟨by omega, by omega⟩ ⟨by omega, by omega⟩ ⟨by omega, by omega⟩ ⟨by omega, by omega⟩) (fun v142 m141 hqm141 => ?_))
                                  obtain ⟨hIm141, hfm141, hvm141⟩ := hqm141
                                  have hFm141 := zfr_tr hFm1 hfm141 rfl
                                  have hRKNm141 := zR_KN_fr (zdis_fr hfm141 rfl) hRKNm1
                                  have hRLTm141 := zR_LT_fr (zdis_fr hfm141 rfl) hRLTm1
                                  have r143 : 0 ≤ (m141 205 2) ∧ (m141 205 2) ≤ 1 := zi_rd hIm141 zq_205 (zb_114 _)
                                  have e144 : (m141 205 2) = (m1 205 2) := (zfr_ap hfm141 zq_205 rfl)
                                  refine zw_bd (zw_mono (zk_127 n hIm141 hc0 ⟨by omega, by omega⟩ (by omega) hRKNm141 hRLTm141) (fun v146 m145 hqm145 => ?_))
                                  obtain ⟨hIm145, hfm145, hvm145⟩ := hqm145
                                  have hFm145 := zfr_tr hFm141 hfm145 rfl
                                  obtain ⟨hRKNm145, hRLTm145, hvm145⟩ := hvm145
                                  have r147 : 0 ≤ (m145 a0 53) ∧ (m145 a0 53) ≤ 1 := zi_rd hIm145 hc0 zb_28_53
                                  refine zw_ite (fun h148 => ?_) (fun h148 => ?_)
                                  · have r149 : (-2147483648) ≤ (m145 a0 2) ∧ (m145 a0 2) ≤ 2147483647 := zi_rd hIm145 hc0 zb_28_2
                                    have e150 : (m145 a0 2) = 0 := (Eq.trans (zfr_ap hfm145 hc0 rfl) (Eq.trans (zfr_ap hfm141 hc0 rfl) (zs_eq hmm1)))
                                    exact zw_some ⟨hIm145, hFm145, hRKNm145, hRLTm145, ⟨by omega, by omega⟩, ⟨by omega, by omega⟩⟩
                                  · have r151 : (-2147483648) ≤ (m145 a0 2) ∧ (m145 a0 2) ≤ 2147483647 := zi_rd hIm145 hc0 zb_28_2
                                    have e152 : (m145 a0 2) = 0 := (Eq.trans (zfr_ap hfm145 hc0 rfl) (Eq.trans (zfr_ap hfm141 hc0 rfl) (zs_eq hmm1)))
                                    exact zw_some ⟨hIm145, hFm145, hRKNm145, hRLTm145, ⟨by omega, by omega⟩, ⟨by omega, by omega⟩⟩
                                · exfalso; omega
                          · have r153 : (-2147483648) ≤ (m1 a0 2) ∧ (m1 a0 2) ≤ 2147483647 := zi_rd hIm1 hc0 zb_28_2
                            have e154 : (m1 a0 2) = 0 := (zs_eq hmm1)
                            exact zw_some ⟨hIm1, hFm1, hRKNm1, hRLTm1, ⟨by omega, by omega⟩, ⟨by omega, by omega⟩⟩
                      · have b155 : 0 ≤ (0 : Int) ∧ (0 : Int) < 8 := by omega
                        refine zw_if b155 ?_
                        have r156 : 0 ≤ (m1 205 0) ∧ (m1 205 0) ≤ 1 := zi_rd hIm1 zq_205 (zb_114 _)
                        refine zw_ite (fun h157 => ?_) (fun h157 => ?_)
                        · refine zw_ite (fun h158 => ?_) (fun h158 => ?_)
                          · exfalso; omega
                          · have b159 : 0 ≤ a2 ∧ a2 < 8 := by omega
                            refine zw_if b159 ?_
                            have r160 : 0 ≤ (m1 202 a2) ∧ (m1 202 a2) ≤ 15 := zi_rd hIm1 zq_202 (zb_111 _)
                            have b161 : 0 ≤ a3 ∧ a3 < 36 := by omega
                            refine zw_if b161 ?_
                            have r162 : 0 ≤ (m1 199 a3) ∧ (m1 199 a3) ≤ 9 := zi_rd hIm1 zq_199 (zb_108 _)
                            have b163 : 0 ≤ a3 ∧ a3 < 36 := by omega
                            refine zw_if b163 ?_
                            have r164 : 0 ≤ (m1 197 a3) ∧ (m1 197 a3) ≤ 47 := zi_rd hIm1 zq_197 (zb_106 _)
                            have b165 : 0 ≤ a3 ∧ a3 < 36 := by omega
                            refine zw_if b165 ?_
                            have r166 : 0 ≤ (m1 198 a3) ∧ (m1 198 a3) ≤ 3 := zi_rd hIm1 zq_198 (zb_107 _)
                            have b167 : 0 ≤ a3 ∧ a3 < 36 := by omega
                            refine zw_if b167 ?_
                            refine zw_nif (by omega) ?_
                            have d168 : Int.tmod a2 4 = a2 % 4 := Int.tmod_eq_emod_of_nonneg (by omega)
                            refine zw_ite (fun h169 => ?_) (fun h169 => ?_)
                            · refine zw_ite (fun h170 => ?_) (fun h170 => ?_)
                              · exfalso; omega
                              · refine zw_bd (zw_mono (zk_130 n hIm1 hc0 ⟨by omega, by omega⟩ ⟨by omega, by omega⟩) (fun v172 m171 hqm171 => ?_))
                                obtain ⟨hIm171, hfm171, hvm171⟩ := hqm171
                                have hFm171 := zfr_tr hFm1 hfm171 rfl
                                have hRKNm171 := zR_KN_fr (zdis_fr hfm171 rfl) hRKNm1
                                have hRLTm171 := zR_LT_fr (zdis_fr hfm171 rfl) hRLTm1
                                refine zw_bd (zw_mono (zk_38 n hIm171 hc0 ⟨by omega, by omega⟩ ⟨by omega, by omega⟩ ⟨by omega, by omega⟩ ⟨by omega, by omega⟩ ⟨by omega, by omega⟩ ⟨by omega, by omega⟩) (fun v174 m173 hqm173 => ?_))
                                obtain ⟨hIm173, hfm173, hvm173⟩ := hqm173
                                have hFm173 := zfr_tr hFm171 hfm173 rfl
                                have hRKNm173 := zR_KN_fr (zdis_fr hfm173 rfl) hRKNm171
                                have hRLTm173 := zR_LT_fr (zdis_fr hfm173 rfl) hRLTm171
                                have r175 : 0 ≤ (m173 205 0) ∧ (m173 205 0) ≤ 1 := zi_rd hIm173 zq_205 (zb_114 _)
                                have e176 : (m173 205 0) = (m1 205 0) := (Eq.trans (zfr_ap hfm173 zq_205 rfl) (zfr_ap hfm171 zq_205 rfl))
                                refine zw_bd (zw_mono (zk_127 n hIm173 hc0 ⟨by omega, by omega⟩ (by omega) hRKNm173 hRLTm173) (fun v178 m177 hqm177 => ?_))
                                obtain ⟨hIm177, hfm177, hvm177⟩ := hqm177
                                have hFm177 := zfr_tr hFm173 hfm177 rfl
                                obtain ⟨hRKNm177, hRLTm177, hvm177⟩ := hvm177
                                have r179 : 0 ≤ (m177 a0 53) ∧ (m177 a0 53) ≤ 1 := zi_rd hIm177 hc0 zb_28_53
                                refine zw_ite (fun h180 => ?_) (fun h180 => ?_)
                                · have r181 : (-2147483648) ≤ (m177 a0 2) ∧ (m177 a0 2) ≤ 2147483647 := zi_rd hIm177 hc0 zb_28_2
                                  have e182 : (m177 a0 2) = 0 := (Eq.trans (zfr_ap hfm177 hc0 rfl) (Eq.trans (zfr_ap hfm173 hc0 rfl) (Eq.trans (zfr_ap hfm171 hc0 rfl) (zs_eq hmm1))))
                                  exact zw_some ⟨hIm177, hFm177, hRKNm177, hRLTm177, ⟨by omega, by omega⟩, ⟨by omega, by omega⟩⟩
                                · have r183 : (-2147483648) ≤ (m177 a0 2) ∧ (m177 a0 2) ≤ 2147483647 := zi_rd hIm177 hc0 zb_28_2
                                  have e184 : (m177 a0 2) = 0 := (Eq.trans (zfr_ap hfm177 hc0 rfl) (Eq.trans (zfr_ap hfm173 hc0 rfl) (Eq.trans (zfr_ap hfm171 hc0 rfl) (zs_eq hmm1))))
                                  exact zw_some ⟨hIm177, hFm177, hRKNm177, hRLTm177, ⟨by omega, by omega⟩, ⟨by omega, by omega⟩⟩
                            · refine zw_ite (fun h185 => ?_) (fun h185 => ?_)
                              · exfalso; omega
                              · refine zw_bd (zw_mono (zk_130 n hIm1 hc0 ⟨by omega, by omega⟩ ⟨by omega, by omega⟩) (fun v187 m186 hqm186 => ?_))
                                obtain ⟨hIm186, hfm186, hvm186⟩ := hqm186
                                have hFm186 := zfr_tr hFm1 hfm186 rfl
                                have hRKNm186 := zR_KN_fr (zdis_fr hfm186 rfl) hRKNm1
                                have hRLTm186 := zR_LT_fr (zdis_fr hfm186 rfl) hRLTm1
                                refine zw_bd (zw_mono (zk_38 n hIm186 hc0 ⟨by omega, by omega⟩ ⟨by omega, by omega⟩ ⟨by omega, by omega⟩ ⟨by omega, by omega⟩ ⟨by omega, by omega⟩ ⟨by omega, by omega⟩) (fun v189 m188 hqm188 => ?_))
                                obtain ⟨hIm188, hfm188, hvm188⟩ := hqm188
                                have hFm188 := zfr_tr hFm186 hfm188 rfl
                                have hRKNm188 := zR_KN_fr (zdis_fr hfm188 rfl) hRKNm186
                                have hRLTm188 := zR_LT_fr (zdis_fr hfm188 rfl) hRLTm186
                                have r190 : 0 ≤ (m188 205 0) ∧ (m188 205 0) ≤ 1 := zi_rd hIm188 zq_205 (zb_114 _)
                                have e191 : (m188 205 0) = (m1 205 0) := (Eq.trans (zfr_ap hfm188 zq_205 rfl) (zfr_ap hfm186 zq_205 rfl))
                                refine zw_bd (zw_mono (zk_127 n hIm188 hc0 ⟨by omega, by omega⟩ (by omega) hRKNm188 hRLTm188) (fun v193 m192 hqm192 => ?_))
                                obtain ⟨hIm192, hfm192, hvm192⟩ := hqm192
                                have hFm192 := zfr_tr hFm188 hfm192 rfl
                                obtain ⟨hRKNm192, hRLTm192, hvm192⟩ := hvm192
                                have r194 : 0 ≤ (m192 a0 53) ∧ (m192 a0 53) ≤ 1 := zi_rd hIm192 hc0 zb_28_53
                                refine zw_ite (fun h195 => ?_) (fun h195 => ?_)
                                · have r196 : (-2147483648) ≤ (m192 a0 2) ∧ (m192 a0 2) ≤ 2147483647 := zi_rd hIm192 hc0 zb_28_2
                                  have e197 : (m192 a0 2) = 0 := (Eq.trans (zfr_ap hfm192 hc0 rfl) (Eq.trans (zfr_ap hfm188 hc0 rfl) (Eq.trans (zfr_ap hfm186 hc0 rfl) (zs_eq hmm1))))
                                  exact zw_some ⟨hIm192, hFm192, hRKNm192, hRLTm192, ⟨by omega, by omega⟩, ⟨by omega, by omega⟩⟩
                                · have r198 : (-2147483648) ≤ (m192 a0 2) ∧ (m192 a0 2) ≤ 2147483647 := zi_rd hIm192 hc0 zb_28_2
                                  have e199 : (m192 a0 2) = 0 := (Eq.trans (zfr_ap hfm192 hc0 rfl) (Eq.trans (zfr_ap hfm188 hc0 rfl) (Eq.trans (zfr_ap hfm186 hc0 rfl) (zs_eq hmm1))))
                                  exact zw_some ⟨hIm192, hFm192, hRKNm192, hRLTm192, ⟨by omega, by omega⟩, ⟨by omega, by omega⟩⟩
                        · have r200 : (-2147483648) ≤ (m1 a0 2) ∧ (m1 a0 2) ≤ 2147483647 := zi_rd hIm1 hc0 zb_28_2
                          have e201 : (m1 a0 2) = 0 := (zs_eq hmm1)
                          exact zw_some ⟨hIm1, hFm1, hRKNm1, hRLTm1, ⟨by omega, by omega⟩, ⟨by omega, by omega⟩⟩
                    · exfalso; omega
      · exfalso; omega
set_option maxHeartbeats 4000000 in
theorem zk_157 (n : Nat) {a0 a1 : Int} {m0 : zu_m} (hIm0 : zi_I m0) (hc0 : zcls a0 = 28) (ha1 : (-2147483648) ≤ a1 ∧ a1 ≤ 2147483647)     : zw (zu_call (zt_T n) 157 [(40, a0), (0, a1)] m0) (fun v m => zi_I m ∧ zfr [(28, 3), (28, 65), (28, 66), (28, 67), (28, 68), (28, 69), (28, 70), (132, 0)] m0 m ∧ ((-1) ≤ v ∧ v ≤ 47) ∧ (0 ≤ m a0 2 ∧ m a0 2 ≤ 0)) := by
  have hFm0 : zfr [(28, 3), (28, 65), (28, 66), (28, 67), (28, 68), (28, 69), (28, 70), (132, 0)] m0 m0 := zfr_rf _ _
  refine zw_eq (zu_call_at (zt_T n) (zm_157 n) (zdp_157 n) _ _ _ _ _ rfl (zr_157_0 n _ _ a0 a1 m0)) ?_
  generalize hmm1 : zu_up m0 a0 2 0 = m1
  have hIm1 := zi_up hmm1 hIm0 hc0 zb_28_2 (by omega) (by omega)
  have hFm1 := zfr_up hmm1 hFm0 hc0 rfl
  refine zw_bd (zw_eq (zu_call_at (zt_T n) (zm_125 n) (zdp_125 n) _ _ _ _ _ rfl (zr_125_0 n _ _ a0 a1 m1)) ?_)
  refine zw_ite (fun h2 => ?_) (fun h2 => ?_)
  · refine zw_b (by omega) ?_
    refine zw_some ?_
    refine zw_ite (fun h3 => ?_) (fun h3 => ?_)
    · exfalso; omega
    · have r4 : (-2147483648) ≤ (m1 a0 2) ∧ (m1 a0 2) ≤ 2147483647 := zi_rd hIm1 hc0 zb_28_2
      have e5 : (m1 a0 2) = 0 := (zs_eq hmm1)
      exact zw_some ⟨hIm1, hFm1, ⟨by omega, by omega⟩, ⟨by omega, by omega⟩⟩
  · have r6 : 0 ≤ (m1 a0 15) ∧ (m1 a0 15) ≤ 4 := zi_rd hIm1 hc0 zb_28_15
    refine zw_ite (fun h7 => ?_) (fun h7 => ?_)
    · refine zw_b (by omega) ?_
      refine zw_some ?_
      refine zw_ite (fun h8 => ?_) (fun h8 => ?_)
      · exfalso; omega
      · have r9 : (-2147483648) ≤ (m1 a0 2) ∧ (m1 a0 2) ≤ 2147483647 := zi_rd hIm1 hc0 zb_28_2
        have e10 : (m1 a0 2) = 0 := (zs_eq hmm1)
        exact zw_some ⟨hIm1, hFm1, ⟨by omega, by omega⟩, ⟨by omega, by omega⟩⟩
    · refine zw_b (by omega) ?_
      refine zw_some ?_
      refine zw_ite (fun h11 => ?_) (fun h11 => ?_)
      · refine zw_bd (zw_mono (zk_156 n hIm1 hc0) (fun v13 m12 hqm12 => ?_))
        obtain ⟨hIm12, hfm12, hvm12⟩ := hqm12
        have hFm12 := zfr_tr hFm1 hfm12 rfl
        have b14 : 0 ≤ a1 ∧ a1 < 8 := by omega
        refine zw_if b14 ?_
        have r15 : 0 ≤ (m12 217 a1) ∧ (m12 217 a1) ≤ 47 := zi_rd hIm12 zq_217 (zb_126 _)
        refine zw_bd (zw_mono (zk_155 n hIm12 hc0 ⟨by omega, by omega⟩ ⟨by omega, by omega⟩) (fun v17 m16 hqm16 => ?_))
        obtain ⟨hIm16, hfm16, hvm16⟩ := hqm16
        have hFm16 := zfr_tr hFm12 hfm16 rfl
        have r18 : (-2147483648) ≤ (m16 a0 2) ∧ (m16 a0 2) ≤ 2147483647 := zi_rd hIm16 hc0 zb_28_2
        have e19 : (m16 a0 2) = 0 := (Eq.trans (zfr_ap hfm16 hc0 rfl) (Eq.trans (zfr_ap hfm12 hc0 rfl) (zs_eq hmm1)))
        exact zw_some ⟨hIm16, hFm16, ⟨by omega, by omega⟩, ⟨by omega, by omega⟩⟩
      · exfalso; omega
set_option maxHeartbeats 4000000 in
theorem zk_170 (n : Nat) {a0 : Int} {m0 : zu_m} (hIm0 : zi_I m0) (hc0 : zcls a0 = 28)      : zw (zu_call (zt_T n) 170 [(40, a0)] m0) (fun v m => zi_I m ∧ zfr [(28, 3), (28, 76), (133, 0)] m0 m ∧ ((-2147483648) ≤ v ∧ v ≤ 2147483647) ∧ (0 ≤ m a0 2 ∧ m a0 2 ≤ 0)) := by
  have hFm0 : zfr [(28, 3), (28, 76), (133, 0)] m0 m0 := zfr_rf _ _
  refine zw_eq (zu_call_at (zt_T n) (zm_170 n) (zdp_170 n) _ _ _ _ _ rfl (zr_170_0 n _ _ a0 m0)) ?_
  generalize hmm1 : zu_up m0 a0 2 0 = m1
  have hIm1 := zi_up hmm1 hIm0 hc0 zb_28_2 (by omega) (by omega)
  have hFm1 := zfr_up hmm1 hFm0 hc0 rfl
  refine zw_bd (zw_mono (zk_169 n hIm1 hc0 ⟨by omega, by omega⟩) (fun v3 m2 hqm2 => ?_))
  obtain ⟨hIm2, hfm2, hvm2⟩ := hqm2
  have hFm2 := zfr_tr hFm1 hfm2 rfl
  have r4 : (-2147483648) ≤ (m2 a0 2) ∧ (m2 a0 2) ≤ 2147483647 := zi_rd hIm2 hc0 zb_28_2
  have e5 : (m2 a0 2) = 0 := (Eq.trans (zfr_ap hfm2 hc0 rfl) (zs_eq hmm1))
  exact zw_some ⟨hIm2, hFm2, ⟨by omega, by omega⟩, ⟨by omega, by omega⟩⟩
set_option maxHeartbeats 4000000 in
theorem zk_171 (n : Nat) {a0 a1 : Int} {m0 : zu_m} (hIm0 : zi_I m0) (hc0 : zcls a0 = 28) (ha1 : (-2147483648) ≤ a1 ∧ a1 ≤ 2147483647)     : zw (zu_call (zt_T n) 171 [(40, a0), (0, a1)] m0) (fun v m => zi_I m ∧ zfr [(28, 3), (28, 76), (133, 0)] m0 m ∧ ((-2147483648) ≤ v ∧ v ≤ 2147483647) ∧ (0 ≤ m a0 2 ∧ m a0 2 ≤ 0)) := by
  have hFm0 : zfr [(28, 3), (28, 76), (133, 0)] m0 m0 := zfr_rf _ _
  refine zw_eq (zu_call_at (zt_T n) (zm_171 n) (zdp_171 n) _ _ _ _ _ rfl (zr_171_0 n _ _ a0 a1 m0)) ?_
  generalize hmm1 : zu_up m0 a0 2 0 = m1
  have hIm1 := zi_up hmm1 hIm0 hc0 zb_28_2 (by omega) (by omega)
  have hFm1 := zfr_up hmm1 hFm0 hc0 rfl
  refine zw_ite (fun h2 => ?_) (fun h2 => ?_)
  · refine zw_bd (zw_mono (zk_169 n hIm1 hc0 ⟨by omega, by omega⟩) (fun v4 m3 hqm3 => ?_))
    obtain ⟨hIm3, hfm3, hvm3⟩ := hqm3
    have hFm3 := zfr_tr hFm1 hfm3 rfl
    have r5 : (-2147483648) ≤ (m3 a0 2) ∧ (m3 a0 2) ≤ 2147483647 := zi_rd hIm3 hc0 zb_28_2
    have e6 : (m3 a0 2) = 0 := (Eq.trans (zfr_ap hfm3 hc0 rfl) (zs_eq hmm1))
    exact zw_some ⟨hIm3, hFm3, ⟨by omega, by omega⟩, ⟨by omega, by omega⟩⟩
  · have r7 : (-2147483648) ≤ (m1 a0 2) ∧ (m1 a0 2) ≤ 2147483647 := zi_rd hIm1 hc0 zb_28_2
    have e8 : (m1 a0 2) = 0 := (zs_eq hmm1)
    exact zw_some ⟨hIm1, hFm1, ⟨by omega, by omega⟩, ⟨by omega, by omega⟩⟩
set_option maxHeartbeats 4000000 in
theorem zl_198 (n : Nat) {a0 a1 : Int} {m0 : zu_m} (hc0 : zcls a0 = 10)   : ∀ k : Nat, (∀ (x2 : Int) (mh : zu_m), zi_I mh → zfr [(5, 6), (5, 7), (9, 4), (9, 5), (9, 6), (9, 7), (10, 4), (10, 5), (10, 7), (10, 8), (33, 0), (34, 0), (35, 0), (36, 0), (47, 0), (48, 0)] m0 mh → (0 ≤ a1 ∧ a1 ≤ 3) → (0 ≤ x2 ∧ x2 ≤ 701) → ((mh a0 4) ≤ zop mh) → (zR_BN mh) → (zR_K10 mh) → (701 - x2) * 1 + 0 < (k : Int) → zw (zu_ex (zt_T n) 198 45 [(24, a0), (0, a1), (0, x2), (2, 0)] [] mh) (fun v m => zi_I m ∧ zfr [(5, 6), (5, 7), (9, 4), (9, 5), (9, 6), (9, 7), (10, 4), (10, 5), (10, 7), (10, 8), (33, 0), (34, 0), (35, 0), (36, 0), (47, 0), (48, 0)] m0 m ∧ zR_BN m ∧ zR_K10 m ∧ (0 ≤ v ∧ v ≤ 2))) := by
  intro k
  induction k with
  | zero => exact fun x2 mh hImh hFmh hba1 hbx2 hH0 hRBNmh hRK10mh hM => by exfalso; omega
  | succ k ih =>
    intro x2 mh hImh hFmh hba1 hbx2 hH0 hRBNmh hRK10mh hM
    refine zw_eq (zu_rega_at (zt_T n) (zm_198 n) (zdp_198 n) _ _ _ _ _ _ (zr_198_45 n _ _ a0 a1 x2 mh)) ?_
    have r1 : 0 ≤ (mh a0 4) ∧ (mh a0 4) ≤ 8 := zi_rd hImh hc0 zb_10_4
    have g2 := zop_bd hImh hc0
    refine zw_ite (fun h3 => ?_) (fun h3 => ?_)
    · exact zw_some ⟨hImh, hFmh, hRBNmh, hRK10mh, ⟨by omega, by omega⟩⟩
    · refine zw_bd (zw_mono (zk_18 n hImh zq_45) (fun v5 m4 hqm4 => ?_))
      obtain ⟨hIm4, hfm4, hvm4⟩ := hqm4
      have hFm4 := zfr_tr hFmh hfm4 rfl
      obtain ⟨hRTVm4, hvm4⟩ := hvm4
      have g6 := zop_fr (zdis_fr hfm4 rfl)
      have hRBNm4 := zR_BN_fr (zdis_fr hfm4 rfl) hRBNmh
      have hRK10m4 := zR_K10_fr (zdis_fr hfm4 rfl) hRK10mh
      have g7 := zop_bd hIm4 hc0
      have s8 := hRTVm4 45 zq_45
      have r9 : 0 ≤ (m4 a0 6) ∧ (m4 a0 6) ≤ 1 := zi_rd hIm4 hc0 zb_10_6
      refine zw_ite (fun h10 => ?_) (fun h10 => ?_)
      · refine zw_ite (fun h11 => ?_) (fun h11 => ?_)
        · exfalso; omega
        · have r12 : 0 ≤ (m4 a0 4) ∧ (m4 a0 4) ≤ 8 := zi_rd hIm4 hc0 zb_10_4
          have e13 : (m4 a0 4) = (mh a0 4) := (zfr_ap hfm4 hc0 rfl)
          refine zw_bd (zw_mono (zk_199 n hIm4 hc0 ⟨by omega, by omega⟩ (by omega) hRK10m4) (fun v15 m14 hqm14 => ?_))
          obtain ⟨hIm14, hfm14, hvm14⟩ := hqm14
          have hFm14 := zfr_tr hFm4 hfm14 rfl
          obtain ⟨hRK10m14, hvm14⟩ := hvm14
          have hRBNm14 := zR_BN_fr (zdis_fr hfm14 rfl) hRBNm4
          have hRTVm14 := zR_TV_fr (zdis_fr hfm14 rfl) hRTVm4
          have g16 := zop_bd hIm14 hc0
          have s17 := hRTVm14 45 zq_45
          refine zw_ite (fun h18 => ?_) (fun h18 => ?_)
          · have w19 := zu_w32_id (z := x2 + 1) (by omega) (by omega)
            have r20 : 0 ≤ (m14 a0 4) ∧ (m14 a0 4) ≤ 8 := zi_rd hIm14 hc0 zb_10_4
            have hM : (701 - (zu_w32 (x2 + 1))) * 1 + 0 < (k : Int) := by omega
            exact zw_le (zu_forget (zu_lr_same (zu_lr_same (zu_lr_same (zu_lr_drop zu_lr_nil))))) (ih (zu_w32 (x2 + 1)) m14 hIm14 hFm14 ⟨by omega, by omega⟩ ⟨by omega, by omega⟩ (by omega) hRBNm14 hRK10m14 hM)
          · exact zw_some ⟨hIm14, hFm14, hRBNm14, hRK10m14, ⟨by omega, by omega⟩⟩
      · have r21 : 0 ≤ (m4 a0 4) ∧ (m4 a0 4) ≤ 8 := zi_rd hIm4 hc0 zb_10_4
        have e22 : (m4 a0 4) = (mh a0 4) := (zfr_ap hfm4 hc0 rfl)
        refine zw_ite (fun h23 => ?_) (fun h23 => ?_)
        · refine zw_ite (fun h24 => ?_) (fun h24 => ?_)
          · refine zw_bd (zw_mono (zk_202 n hIm4 hc0 ⟨by omega, by omega⟩ (by omega) hRBNm4 hRK10m4 hRTVm4) (fun v26 m25 hqm25 => ?_))
            obtain ⟨hIm25, hfm25, hvm25⟩ := hqm25
            have hFm25 := zfr_tr hFm4 hfm25 rfl
            obtain ⟨hRBNm25, hRK10m25, hRTVm25, hvm25⟩ := hvm25
            have g27 := zop_bd hIm25 hc0
            have s28 := hRTVm25 45 zq_45
            refine zw_ite (fun h29 => ?_) (fun h29 => ?_)
            · have w30 := zu_w32_id (z := x2 + 1) (by omega) (by omega)
              have r31 : 0 ≤ (m25 a0 4) ∧ (m25 a0 4) ≤ 8 := zi_rd hIm25 hc0 zb_10_4
              have hM : (701 - (zu_w32 (x2 + 1))) * 1 + 0 < (k : Int) := by omega
              exact zw_le (zu_forget (zu_lr_same (zu_lr_same (zu_lr_same (zu_lr_drop zu_lr_nil))))) (ih (zu_w32 (x2 + 1)) m25 hIm25 hFm25 ⟨by omega, by omega⟩ ⟨by omega, by omega⟩ (by omega) hRBNm25 hRK10m25 hM)
            · exact zw_some ⟨hIm25, hFm25, hRBNm25, hRK10m25, ⟨by omega, by omega⟩⟩
          · exfalso; omega
        · refine zw_bd (zw_eq (zu_call_at (zt_T n) (zm_278 n) (zdp_278 n) _ _ _ _ _ rfl (zr_278_0 n _ _ 45 0 m4)) ?_)
          have r32 : 0 ≤ (m4 45 4) ∧ (m4 45 4) ≤ 5 := zi_rd hIm4 zq_45 zb_9_4
          refine zw_ite (fun h33 => ?_) (fun h33 => ?_)
          · refine zw_b (by omega) ?_
            refine zw_some ?_
            refine zw_ite (fun h34 => ?_) (fun h34 => ?_)
            · refine zw_ite (fun h35 => ?_) (fun h35 => ?_)
              · refine zw_bd (zw_mono (zk_202 n hIm4 hc0 ⟨by omega, by omega⟩ (by omega) hRBNm4 hRK10m4 hRTVm4) (fun v37 m36 hqm36 => ?_))
                obtain ⟨hIm36, hfm36, hvm36⟩ := hqm36
                have hFm36 := zfr_tr hFm4 hfm36 rfl
                obtain ⟨hRBNm36, hRK10m36, hRTVm36, hvm36⟩ := hvm36
                have g38 := zop_bd hIm36 hc0
                have s39 := hRTVm36 45 zq_45
                refine zw_ite (fun h40 => ?_) (fun h40 => ?_)
                · have w41 := zu_w32_id (z := x2 + 1) (by omega) (by omega)
                  have r42 : 0 ≤ (m36 a0 4) ∧ (m36 a0 4) ≤ 8 := zi_rd hIm36 hc0 zb_10_4
                  have hM : (701 - (zu_w32 (x2 + 1))) * 1 + 0 < (k : Int) := by omega
                  exact zw_le (zu_forget (zu_lr_same (zu_lr_same (zu_lr_same (zu_lr_drop zu_lr_nil))))) (ih (zu_w32 (x2 + 1)) m36 hIm36 hFm36 ⟨by omega, by omega⟩ ⟨by omega, by omega⟩ (by omega) hRBNm36 hRK10m36 hM)
                · exact zw_some ⟨hIm36, hFm36, hRBNm36, hRK10m36, ⟨by omega, by omega⟩⟩
              · exfalso; omega
            · exfalso; omega
          · refine zw_ite (fun h43 => ?_) (fun h43 => ?_)
            · refine zw_b (by omega) ?_
              refine zw_some ?_
              refine zw_ite (fun h44 => ?_) (fun h44 => ?_)
              · refine zw_ite (fun h45 => ?_) (fun h45 => ?_)
                · refine zw_bd (zw_mono (zk_202 n hIm4 hc0 ⟨by omega, by omega⟩ (by omega) hRBNm4 hRK10m4 hRTVm4) (fun v47 m46 hqm46 => ?_))
                  obtain ⟨hIm46, hfm46, hvm46⟩ := hqm46
                  have hFm46 := zfr_tr hFm4 hfm46 rfl
                  obtain ⟨hRBNm46, hRK10m46, hRTVm46, hvm46⟩ := hvm46
                  have g48 := zop_bd hIm46 hc0
                  have s49 := hRTVm46 45 zq_45
                  refine zw_ite (fun h50 => ?_) (fun h50 => ?_)
                  · have w51 := zu_w32_id (z := x2 + 1) (by omega) (by omega)
                    have r52 : 0 ≤ (m46 a0 4) ∧ (m46 a0 4) ≤ 8 := zi_rd hIm46 hc0 zb_10_4
                    have hM : (701 - (zu_w32 (x2 + 1))) * 1 + 0 < (k : Int) := by omega
                    exact zw_le (zu_forget (zu_lr_same (zu_lr_same (zu_lr_same (zu_lr_drop zu_lr_nil))))) (ih (zu_w32 (x2 + 1)) m46 hIm46 hFm46 ⟨by omega, by omega⟩ ⟨by omega, by omega⟩ (by omega) hRBNm46 hRK10m46 hM)
                  · exact zw_some ⟨hIm46, hFm46, hRBNm46, hRK10m46, ⟨by omega, by omega⟩⟩
                · exfalso; omega
              · exfalso; omega
            · refine zw_b (by omega) ?_
              refine zw_some ?_
              refine zw_ite (fun h53 => ?_) (fun h53 => ?_)
              · exfalso; omega
              · refine zw_bd (zw_mono (zk_206 n hIm4 hc0 ⟨by omega, by omega⟩ (by omega) hRBNm4 hRK10m4) (fun v55 m54 hqm54 => ?_))
                obtain ⟨hIm54, hfm54, hvm54⟩ := hqm54
                have hFm54 := zfr_tr hFm4 hfm54 rfl
                obtain ⟨hRBNm54, hRK10m54, hvm54⟩ := hvm54
                have hRTVm54 := zR_TV_fr (zdis_fr hfm54 rfl) hRTVm4
                have g56 := zop_bd hIm54 hc0
                have s57 := hRTVm54 45 zq_45
                have r58 : 0 ≤ (m54 10 6) ∧ (m54 10 6) ≤ 64 := zi_rd hIm54 zq_10 zb_5_6
                have b59 : 0 ≤ a1 ∧ a1 < 4 := by omega
                refine zw_if b59 ?_
                generalize hmm60 : zu_up m54 (10 + 4) a1 (m54 10 6) = m60
                have hIm60 := zi_up hmm60 hIm54 (zc_5_3 zq_10) (zb_36 _) (by omega) (by omega)
                have hFm60 := zfr_up hmm60 hFm54 (zc_5_3 zq_10) rfl
                have g61 := zop_fr (zdis_fr (zfr_up hmm60 (zfr_rf [(36, 0)] _) (zc_5_3 zq_10) rfl) rfl)
                have hRBNm60 := zR_BN_fr (zdis_fr (zfr_up hmm60 (zfr_rf [(36, 0)] _) (zc_5_3 zq_10) rfl) rfl) hRBNm54
                have hRK10m60 := zR_K10_fr (zdis_fr (zfr_up hmm60 (zfr_rf [(36, 0)] _) (zc_5_3 zq_10) rfl) rfl) hRK10m54
                have hRTVm60 := zR_TV_fr (zdis_fr (zfr_up hmm60 (zfr_rf [(36, 0)] _) (zc_5_3 zq_10) rfl) rfl) hRTVm54
                exact zw_some ⟨hIm60, hFm60, hRBNm60, hRK10m60, ⟨by omega, by omega⟩⟩
set_option maxHeartbeats 4000000 in
theorem zk_198 (n : Nat) {a0 a1 : Int} {m0 : zu_m} (hIm0 : zi_I m0) (hc0 : zcls a0 = 10) (ha1 : 0 ≤ a1 ∧ a1 ≤ 3)    (hRBNm0 : zR_BN m0) (hRK10m0 : zR_K10 m0) : zw (zu_call (zt_T n) 198 [(24, a0), (0, a1)] m0) (fun v m => zi_I m ∧ zfr [(5, 6), (5, 7), (9, 4), (9, 5), (9, 6), (9, 7), (10, 4), (10, 5), (10, 7), (10, 8), (33, 0), (34, 0), (35, 0), (36, 0), (47, 0), (48, 0)] m0 m ∧ zR_BN m ∧ zR_K10 m ∧ (0 ≤ v ∧ v ≤ 2)) := by
  have hFm0 : zfr [(5, 6), (5, 7), (9, 4), (9, 5), (9, 6), (9, 7), (10, 4), (10, 5), (10, 7), (10, 8), (33, 0), (34, 0), (35, 0), (36, 0), (47, 0), (48, 0)] m0 m0 := zfr_rf _ _
  have g62 := zop_bd hIm0 hc0
  refine zw_eq (zu_call_at (zt_T n) (zm_198 n) (zdp_198 n) _ _ _ _ _ rfl (zr_198_0 n _ _ a0 a1 m0)) ?_
  have r63 : 0 ≤ (m0 10 6) ∧ (m0 10 6) ≤ 64 := zi_rd hIm0 zq_10 zb_5_6
  have b64 : 0 ≤ a1 ∧ a1 < 4 := by omega
  refine zw_if b64 ?_
  generalize hmm65 : zu_up m0 (10 + 3) a1 (m0 10 6) = m65
  have hIm65 := zi_up hmm65 hIm0 (zc_5_2 zq_10) (zb_35 _) (by omega) (by omega)
  have hFm65 := zfr_up hmm65 hFm0 (zc_5_2 zq_10) rfl
  have g66 := zop_fr (zdis_fr (zfr_up hmm65 (zfr_rf [(35, 0)] _) (zc_5_2 zq_10) rfl) rfl)
  have hRBNm65 := zR_BN_fr (zdis_fr (zfr_up hmm65 (zfr_rf [(35, 0)] _) (zc_5_2 zq_10) rfl) rfl) hRBNm0
  have hRK10m65 := zR_K10_fr (zdis_fr (zfr_up hmm65 (zfr_rf [(35, 0)] _) (zc_5_2 zq_10) rfl) rfl) hRK10m0
  generalize hmm67 : zu_up m65 a0 3 0 = m67
  have hIm67 := zi_up hmm67 hIm65 hc0 zb_10_3 (by omega) (by omega)
  have hFm67 := zfr_up hmm67 hFm65 hc0 rfl
  have hRBNm67 := zR_BN_fr (zdis_fr (zfr_up hmm67 (zfr_rf [(10, 4)] _) hc0 rfl) rfl) hRBNm65
  have hRK10m67 := zR_K10_fr (zdis_fr (zfr_up hmm67 (zfr_rf [(10, 4)] _) hc0 rfl) rfl) hRK10m65
  have g68 := zop_zero hmm67 hc0
  generalize hmm69 : zu_up m67 a0 4 0 = m69
  have hIm69 := zi_up hmm69 hIm67 hc0 zb_10_4 (by omega) (by omega)
  have hFm69 := zfr_up hmm69 hFm67 hc0 rfl
  have g70 := zop_fr (zdis_fr (zfr_up hmm69 (zfr_rf [(10, 5)] _) hc0 rfl) rfl)
  have hRBNm69 := zR_BN_fr (zdis_fr (zfr_up hmm69 (zfr_rf [(10, 5)] _) hc0 rfl) rfl) hRBNm67
  have hRK10m69 := zR_K10_fr (zdis_fr (zfr_up hmm69 (zfr_rf [(10, 5)] _) hc0 rfl) rfl) hRK10m67
  refine zw_b (by omega) ?_
  have b71 : 0 ≤ (0 : Int) ∧ (0 : Int) < 9 := by omega
  refine zw_if b71 ?_
  generalize hmm72 : zu_up m69 49 0 0 = m72
  have hIm72 := zi_up hmm72 hIm69 zq_49 (zb_48 _) (by omega) (by omega)
  have hFm72 := zfr_up hmm72 hFm69 zq_49 rfl
  have g73 := zop_fr (zdis_fr (zfr_up hmm72 (zfr_rf [(48, 0)] _) zq_49 rfl) rfl)
  have hRBNm72 := zR_BN_fr (zdis_fr (zfr_up hmm72 (zfr_rf [(48, 0)] _) zq_49 rfl) rfl) hRBNm69
  have hRK10m72 := zR_K10_fr (zdis_fr (zfr_up hmm72 (zfr_rf [(48, 0)] _) zq_49 rfl) rfl) hRK10m69
  refine zw_b (by omega) ?_
  generalize hmm74 : zu_up m72 a0 6 1 = m74
  have hIm74 := zi_up hmm74 hIm72 hc0 zb_10_6 (by omega) (by omega)
  have hFm74 := zfr_up hmm74 hFm72 hc0 rfl
  have g75 := zop_fr (zdis_fr (zfr_up hmm74 (zfr_rf [(10, 7)] _) hc0 rfl) rfl)
  have hRBNm74 := zR_BN_fr (zdis_fr (zfr_up hmm74 (zfr_rf [(10, 7)] _) hc0 rfl) rfl) hRBNm72
  have hRK10m74 := zR_K10_fr (zdis_fr (zfr_up hmm74 (zfr_rf [(10, 7)] _) hc0 rfl) rfl) hRK10m72
  refine zw_b (by omega) ?_
  generalize hmm76 : zu_up m74 a0 7 1 = m76
  have hIm76 := zi_up hmm76 hIm74 hc0 zb_10_7 (by omega) (by omega)
  have hFm76 := zfr_up hmm76 hFm74 hc0 rfl
  have g77 := zop_fr (zdis_fr (zfr_up hmm76 (zfr_rf [(10, 8)] _) hc0 rfl) rfl)
  have hRBNm76 := zR_BN_fr (zdis_fr (zfr_up hmm76 (zfr_rf [(10, 8)] _) hc0 rfl) rfl) hRBNm74
  have hRK10m76 := zR_K10_fr (zdis_fr (zfr_up hmm76 (zfr_rf [(10, 8)] _) hc0 rfl) rfl) hRK10m74
  have r78 : 0 ≤ (m76 a0 4) ∧ (m76 a0 4) ≤ 8 := zi_rd hIm76 hc0 zb_10_4
  have e79 : (m76 a0 4) = 0 := (Eq.trans (zs_ne hmm76 (Or.inr (by decide))) (Eq.trans (zs_ne hmm74 (Or.inr (by decide))) (Eq.trans (zs_ne hmm72 (Or.inl (zc_ne hc0 zq_49 (by decide)))) (zs_eq hmm69))))
  have hM : (701 - 0) * 1 + 0 < ((702 : Nat) : Int) := by omega
  exact (zl_198 n (m0 := m0) hc0 702) 0 m76 hIm76 hFm76 ⟨by omega, by omega⟩ ⟨by omega, by omega⟩ (by omega) hRBNm76 hRK10m76 hM
set_option maxHeartbeats 4000000 in
theorem zl_216_16 (n : Nat) {a0 a1 a2 : Int} {m0 : zu_m} (hc0 : zcls a0 = 16)   : ∀ k : Nat, (∀ (x3 x4 x5 x6 : Int) (mh : zu_m), zi_I mh → zfr [(16, 10), (17, 4), (18, 6), (18, 7), (18, 8), (56, 0), (59, 1), (59, 2), (59, 3), (59, 4), (59, 5), (59, 6), (59, 7), (67, 0), (68, 0)] m0 mh → (0 ≤ a1 ∧ a1 ≤ 3) → (0 ≤ a2 ∧ a2 ≤ 0) → (zcls x3 = 18) → (0 ≤ x4 ∧ x4 ≤ 47) → ((-2147483648) ≤ x5 ∧ x5 ≤ 2147483647) → (0 ≤ x6 ∧ x6 ≤ 16) → (zR_K54 mh) → (16 - x6) * 1 + 0 < (k : Int) → zw (zu_ex (zt_T n) 216 22 [(27, a0), (0, a1), (0, a2), (21, x3), (0, x4), (0, x5), (0, x6), (2, 0), (2, 0)] [] mh) (fun v m => zi_I m ∧ zfr [(16, 10), (17, 4), (18, 6), (18, 7), (18, 8), (56, 0), (59, 1), (59, 2), (59, 3), (59, 4), (59, 5), (59, 6), (59, 7), (67, 0), (68, 0)] m0 m ∧ zR_K54 m ∧ True)) := by
  intro k
  induction k with
  | zero => exact fun x3 x4 x5 x6 mh hImh hFmh hba1 hba2 hx3 hbx4 hbx5 hbx6 hRK54mh hM => by exfalso; omega
  | succ k ih =>
    intro x3 x4 x5 x6 mh hImh hFmh hba1 hba2 hx3 hbx4 hbx5 hbx6 hRK54mh hM
    refine zw_eq (zu_rega_at (zt_T n) (zm_216 n) (zdp_216 n) _ _ _ _ _ _ (zr_216_22 n _ _ a0 a1 a2 x3 x4 x5 x6 mh)) ?_
    have r1 : 0 ≤ (mh a0 2) ∧ (mh a0 2) ≤ 16 := zi_rd hImh hc0 zb_16_2
    refine zw_ite (fun h2 => ?_) (fun h2 => ?_)
    · refine zw_ite (fun h3 => ?_) (fun h3 => ?_)
      · generalize hmm4 : zu_up mh x3 7 (-1) = m4
        have hIm4 := zi_up hmm4 hImh hx3 zb_18_7 (by omega) (by omega)
        have hFm4 := zfr_up hmm4 hFmh hx3 rfl
        have hRK54m4 := zR_K54_fr (zdis_fr (zfr_up hmm4 (zfr_rf [(18, 8)] _) hx3 rfl) rfl) hRK54mh
        have r5 : (-2147483648) ≤ (m4 x3 5) ∧ (m4 x3 5) ≤ 2147483647 := zi_rd hIm4 hx3 zb_18_5
        have w6 := zu_w32_rg ((m4 x3 5) + 1)
        generalize hmm7 : zu_up m4 x3 5 (zu_w32 ((m4 x3 5) + 1)) = m7
        have hIm7 := zi_up hmm7 hIm4 hx3 zb_18_5 (by omega) (by omega)
        have hFm7 := zfr_up hmm7 hFm4 hx3 rfl
        have hRK54m7 := zR_K54_fr (zdis_fr (zfr_up hmm7 (zfr_rf [(18, 6)] _) hx3 rfl) rfl) hRK54m4
        refine zw_b (by omega) ?_
        have b8 : 0 ≤ x4 ∧ x4 < 48 := by omega
        refine zw_if b8 ?_
        generalize hmm9 : zu_up m7 (a0 + 3) x4 1 = m9
        have hIm9 := zi_up hmm9 hIm7 (zc_16_5 hc0) (zb_67 _) (by omega) (by omega)
        have hFm9 := zfr_up hmm9 hFm7 (zc_16_5 hc0) rfl
        have hRK54m9 := zR_K54_fr (zdis_fr (zfr_up hmm9 (zfr_rf [(67, 0)] _) (zc_16_5 hc0) rfl) rfl) hRK54m7
        have b10 : 0 ≤ x4 ∧ x4 < 48 := by omega
        refine zw_if b10 ?_
        have r11 : 0 ≤ (m9 (a0 + 4) x4) ∧ (m9 (a0 + 4) x4) ≤ 999000 := zi_rd hIm9 (zc_16_6 hc0) (zb_68 _)
        refine zw_bd (zw_mono (zk_254 n hIm9 zq_50 ⟨by omega, by omega⟩ ⟨by omega, by omega⟩ ⟨by omega, by omega⟩) (fun v13 m12 hqm12 => ?_))
        obtain ⟨hIm12, hfm12, hvm12⟩ := hqm12
        have hFm12 := zfr_tr hFm9 hfm12 rfl
        have hRK54m12 := zR_K54_fr (zdis_fr hfm12 rfl) hRK54m9
        have b14 : 0 ≤ x4 ∧ x4 < 48 := by omega
        refine zw_if b14 ?_
        generalize hmm15 : zu_up m12 (a0 + 4) x4 v13 = m15
        have hIm15 := zi_up hmm15 hIm12 (zc_16_6 hc0) (zb_68 _) (by omega) (by omega)
        have hFm15 := zfr_up hmm15 hFm12 (zc_16_6 hc0) rfl
        have hRK54m15 := zR_K54_fr (zdis_fr (zfr_up hmm15 (zfr_rf [(68, 0)] _) (zc_16_6 hc0) rfl) rfl) hRK54m12
        exact zw_some ⟨hIm15, hFm15, hRK54m15, trivial⟩
      · exfalso; omega
    · refine zw_ite (fun h16 => ?_) (fun h16 => ?_)
      · have b17 : 0 ≤ x6 ∧ x6 < 16 := by omega
        refine zw_if b17 ?_
        have r18 : (-3) ≤ (mh ((a0 + 1) + 5 + x6) 3) ∧ (mh ((a0 + 1) + 5 + x6) 3) ≤ 3 := zi_rd hImh (zc_65_e (zc_16_1 hc0) b17) zb_17_3
        refine zw_ite (fun h19 => ?_) (fun h19 => ?_)
        · have w20 := zu_w32_id (z := x6 + 1) (by omega) (by omega)
          have hM : (16 - (zu_w32 (x6 + 1))) * 1 + 0 < (k : Int) := by omega
          exact zw_le (zu_forget (zu_lr_same (zu_lr_same (zu_lr_same (zu_lr_same (zu_lr_same (zu_lr_same (zu_lr_same (zu_lr_drop (zu_lr_same zu_lr_nil)))))))))) (ih x3 x4 x5 (zu_w32 (x6 + 1)) mh hImh hFmh ⟨by omega, by omega⟩ ⟨by omega, by omega⟩ hx3 ⟨by omega, by omega⟩ ⟨by omega, by omega⟩ ⟨by omega, by omega⟩ hRK54mh hM)
        · have r21 : 0 ≤ (mh ((a0 + 1) + 5 + x6) 0) ∧ (mh ((a0 + 1) + 5 + x6) 0) ≤ 47 := zi_rd hImh (zc_65_e (zc_16_1 hc0) b17) zb_17_0
          refine zw_ite (fun h22 => ?_) (fun h22 => ?_)
          · have w23 := zu_w32_id (z := x6 + 1) (by omega) (by omega)
            have hM : (16 - (zu_w32 (x6 + 1))) * 1 + 0 < (k : Int) := by omega
            exact zw_le (zu_forget (zu_lr_same (zu_lr_same (zu_lr_same (zu_lr_same (zu_lr_same (zu_lr_same (zu_lr_same (zu_lr_drop (zu_lr_same zu_lr_nil)))))))))) (ih x3 x4 x5 (zu_w32 (x6 + 1)) mh hImh hFmh ⟨by omega, by omega⟩ ⟨by omega, by omega⟩ hx3 ⟨by omega, by omega⟩ ⟨by omega, by omega⟩ ⟨by omega, by omega⟩ hRK54mh hM)
          · have r24 : 0 ≤ (mh ((a0 + 1) + 5 + x6) 1) ∧ (mh ((a0 + 1) + 5 + x6) 1) ≤ 3 := zi_rd hImh (zc_65_e (zc_16_1 hc0) b17) zb_17_1
            refine zw_bd (zw_eq (zu_call_at (zt_T n) (zm_217 n) (zdp_217 n) _ _ _ _ _ rfl (zr_217_0 n _ _ a0 a1 (mh ((a0 + 1) + 5 + x6) 1) mh)) ?_)
            have r25 : 0 ≤ (mh a0 10) ∧ (mh a0 10) ≤ 3 := zi_rd hImh hc0 zb_16_10
            refine zw_ite (fun h26 => ?_) (fun h26 => ?_)
            · refine zw_b (by omega) ?_
              refine zw_some ?_
              refine zw_ite (fun h27 => ?_) (fun h27 => ?_)
              · exfalso; omega
              · refine zw_ite (fun h28 => ?_) (fun h28 => ?_)
                · refine zw_bd (zw_mono (zk_215_16 n hImh hc0) (fun v30 m29 hqm29 => ?_))
                  obtain ⟨hIm29, hfm29, hvm29⟩ := hqm29
                  have hFm29 := zfr_tr hFmh hfm29 rfl
                  have hRK54m29 := zR_K54_fr (zdis_fr hfm29 rfl) hRK54mh
                  refine zw_nif (by omega) ?_
                  have d31 := ztmod_b2 (x := v30) (y := 100) (by omega)
                  have r32 : (-2147483648) ≤ (m29 x3 6) ∧ (m29 x3 6) ≤ 2147483647 := zi_rd hIm29 hx3 zb_18_6
                  refine zw_bd (zw_mono (zk_224_16 n hIm29 hc0 ⟨by omega, by omega⟩ ⟨by omega, by omega⟩ ⟨by omega, by omega⟩) (fun v34 m33 hqm33 => ?_))
                  obtain ⟨hIm33, hfm33, hvm33⟩ := hqm33
                  have hFm33 := zfr_tr hFm29 hfm33 rfl
                  have hRK54m33 := zR_K54_fr (zdis_fr hfm33 rfl) hRK54m29
                  refine zw_bd (zw_mono (zk_250 n hIm33 zq_50 hRK54m33) (fun v36 m35 hqm35 => ?_))
                  obtain ⟨hIm35, hfm35, hvm35⟩ := hqm35
                  have hFm35 := zfr_tr hFm33 hfm35 rfl
                  obtain ⟨hRK54m35, hvm35⟩ := hvm35
                  refine zw_ite (fun h37 => ?_) (fun h37 => ?_)
                  · have w38 := zu_w32_id (z := x6 + 1) (by omega) (by omega)
                    have hM : (16 - (zu_w32 (x6 + 1))) * 1 + 0 < (k : Int) := by omega
                    exact zw_le (zu_forget (zu_lr_same (zu_lr_same (zu_lr_same (zu_lr_same (zu_lr_same (zu_lr_same (zu_lr_same (zu_lr_drop (zu_lr_drop zu_lr_nil)))))))))) (ih x3 x4 x5 (zu_w32 (x6 + 1)) m35 hIm35 hFm35 ⟨by omega, by omega⟩ ⟨by omega, by omega⟩ hx3 ⟨by omega, by omega⟩ ⟨by omega, by omega⟩ ⟨by omega, by omega⟩ hRK54m35 hM)
                  · generalize hmm39 : zu_up m35 ((a0 + 1) + 5 + x6) 3 a1 = m39
                    have hIm39 := zi_up hmm39 hIm35 (zc_65_e (zc_16_1 hc0) b17) zb_17_3 (by omega) (by omega)
                    have hFm39 := zfr_up hmm39 hFm35 (zc_65_e (zc_16_1 hc0) b17) rfl
                    have hRK54m39 := zR_K54_fr (zdis_fr (zfr_up hmm39 (zfr_rf [(17, 4)] _) (zc_65_e (zc_16_1 hc0) b17) rfl) rfl) hRK54m35
                    have r40 : (-2147483648) ≤ (m39 x3 6) ∧ (m39 x3 6) ≤ 2147483647 := zi_rd hIm39 hx3 zb_18_6
                    have e41 : (m39 x3 6) = (m29 x3 6) := (Eq.trans (zs_ne hmm39 (Or.inl (zc_ne hx3 (zc_65_e (zc_16_1 hc0) b17) (by decide)))) (Eq.trans (zfr_ap hfm35 hx3 rfl) (zfr_ap hfm33 hx3 rfl)))
                    have w42 := zu_w32_rg ((m39 x3 6) + 1)
                    generalize hmm43 : zu_up m39 x3 6 (zu_w32 ((m39 x3 6) + 1)) = m43
                    have hIm43 := zi_up hmm43 hIm39 hx3 zb_18_6 (by omega) (by omega)
                    have hFm43 := zfr_up hmm43 hFm39 hx3 rfl
                    have hRK54m43 := zR_K54_fr (zdis_fr (zfr_up hmm43 (zfr_rf [(18, 7)] _) hx3 rfl) rfl) hRK54m39
                    have w44 := zu_w32_id (z := x6 + 1) (by omega) (by omega)
                    have hM : (16 - (zu_w32 (x6 + 1))) * 1 + 0 < (k : Int) := by omega
                    exact zw_le (zu_forget (zu_lr_same (zu_lr_same (zu_lr_same (zu_lr_same (zu_lr_same (zu_lr_same (zu_lr_same (zu_lr_drop (zu_lr_drop zu_lr_nil)))))))))) (ih x3 x4 x5 (zu_w32 (x6 + 1)) m43 hIm43 hFm43 ⟨by omega, by omega⟩ ⟨by omega, by omega⟩ hx3 ⟨by omega, by omega⟩ ⟨by omega, by omega⟩ ⟨by omega, by omega⟩ hRK54m43 hM)
                · exfalso; omega
            · refine zw_nif (by omega) ?_
              have d45 : Int.tmod a1 4 = a1 % 4 := Int.tmod_eq_emod_of_nonneg (by omega)
              refine zw_ite (fun h46 => ?_) (fun h46 => ?_)
              · refine zw_b (by omega) ?_
                refine zw_some ?_
                refine zw_ite (fun h47 => ?_) (fun h47 => ?_)
                · have w48 := zu_w32_id (z := x6 + 1) (by omega) (by omega)
                  have hM : (16 - (zu_w32 (x6 + 1))) * 1 + 0 < (k : Int) := by omega
                  exact zw_le (zu_forget (zu_lr_same (zu_lr_same (zu_lr_same (zu_lr_same (zu_lr_same (zu_lr_same (zu_lr_same (zu_lr_drop (zu_lr_same zu_lr_nil)))))))))) (ih x3 x4 x5 (zu_w32 (x6 + 1)) mh hImh hFmh ⟨by omega, by omega⟩ ⟨by omega, by omega⟩ hx3 ⟨by omega, by omega⟩ ⟨by omega, by omega⟩ ⟨by omega, by omega⟩ hRK54mh hM)
                · exfalso; omega
              · refine zw_b (by omega) ?_
                refine zw_some ?_
                refine zw_ite (fun h49 => ?_) (fun h49 => ?_)
                · exfalso; omega
                · refine zw_ite (fun h50 => ?_) (fun h50 => ?_)
                  · refine zw_bd (zw_mono (zk_215_16 n hImh hc0) (fun v52 m51 hqm51 => ?_))
                    obtain ⟨hIm51, hfm51, hvm51⟩ := hqm51
                    have hFm51 := zfr_tr hFmh hfm51 rfl
                    have hRK54m51 := zR_K54_fr (zdis_fr hfm51 rfl) hRK54mh
                    refine zw_nif (by omega) ?_
                    have d53 := ztmod_b2 (x := v52) (y := 100) (by omega)
                    have r54 : (-2147483648) ≤ (m51 x3 6) ∧ (m51 x3 6) ≤ 2147483647 := zi_rd hIm51 hx3 zb_18_6
                    refine zw_bd (zw_mono (zk_224_16 n hIm51 hc0 ⟨by omega, by omega⟩ ⟨by omega, by omega⟩ ⟨by omega, by omega⟩) (fun v56 m55 hqm55 => ?_))
                    obtain ⟨hIm55, hfm55, hvm55⟩ := hqm55
                    have hFm55 := zfr_tr hFm51 hfm55 rfl
                    have hRK54m55 := zR_K54_fr (zdis_fr hfm55 rfl) hRK54m51
                    refine zw_bd (zw_mono (zk_250 n hIm55 zq_50 hRK54m55) (fun v58 m57 hqm57 => ?_))
                    obtain ⟨hIm57, hfm57, hvm57⟩ := hqm57
                    have hFm57 := zfr_tr hFm55 hfm57 rfl
                    obtain ⟨hRK54m57, hvm57⟩ := hvm57
                    refine zw_ite (fun h59 => ?_) (fun h59 => ?_)
                    · have w60 := zu_w32_id (z := x6 + 1) (by omega) (by omega)
                      have hM : (16 - (zu_w32 (x6 + 1))) * 1 + 0 < (k : Int) := by omega
                      exact zw_le (zu_forget (zu_lr_same (zu_lr_same (zu_lr_same (zu_lr_same (zu_lr_same (zu_lr_same (zu_lr_same (zu_lr_drop (zu_lr_drop zu_lr_nil)))))))))) (ih x3 x4 x5 (zu_w32 (x6 + 1)) m57 hIm57 hFm57 ⟨by omega, by omega⟩ ⟨by omega, by omega⟩ hx3 ⟨by omega, by omega⟩ ⟨by omega, by omega⟩ ⟨by omega, by omega⟩ hRK54m57 hM)
                    · generalize hmm61 : zu_up m57 ((a0 + 1) + 5 + x6) 3 a1 = m61
                      have hIm61 := zi_up hmm61 hIm57 (zc_65_e (zc_16_1 hc0) b17) zb_17_3 (by omega) (by omega)
                      have hFm61 := zfr_up hmm61 hFm57 (zc_65_e (zc_16_1 hc0) b17) rfl
                      have hRK54m61 := zR_K54_fr (zdis_fr (zfr_up hmm61 (zfr_rf [(17, 4)] _) (zc_65_e (zc_16_1 hc0) b17) rfl) rfl) hRK54m57
                      have r62 : (-2147483648) ≤ (m61 x3 6) ∧ (m61 x3 6) ≤ 2147483647 := zi_rd hIm61 hx3 zb_18_6
                      have e63 : (m61 x3 6) = (m51 x3 6) := (Eq.trans (zs_ne hmm61 (Or.inl (zc_ne hx3 (zc_65_e (zc_16_1 hc0) b17) (by decide)))) (Eq.trans (zfr_ap hfm57 hx3 rfl) (zfr_ap hfm55 hx3 rfl)))
                      have w64 := zu_w32_rg ((m61 x3 6) + 1)
                      generalize hmm65 : zu_up m61 x3 6 (zu_w32 ((m61 x3 6) + 1)) = m65
                      have hIm65 := zi_up hmm65 hIm61 hx3 zb_18_6 (by omega) (by omega)
                      have hFm65 := zfr_up hmm65 hFm61 hx3 rfl
                      have hRK54m65 := zR_K54_fr (zdis_fr (zfr_up hmm65 (zfr_rf [(18, 7)] _) hx3 rfl) rfl) hRK54m61
                      have w66 := zu_w32_id (z := x6 + 1) (by omega) (by omega)
                      have hM : (16 - (zu_w32 (x6 + 1))) * 1 + 0 < (k : Int) := by omega
                      exact zw_le (zu_forget (zu_lr_same (zu_lr_same (zu_lr_same (zu_lr_same (zu_lr_same (zu_lr_same (zu_lr_same (zu_lr_drop (zu_lr_drop zu_lr_nil)))))))))) (ih x3 x4 x5 (zu_w32 (x6 + 1)) m65 hIm65 hFm65 ⟨by omega, by omega⟩ ⟨by omega, by omega⟩ hx3 ⟨by omega, by omega⟩ ⟨by omega, by omega⟩ ⟨by omega, by omega⟩ hRK54m65 hM)
                  · exfalso; omega
      · exfalso; omega
set_option maxHeartbeats 4000000 in
theorem zk_216_16 (n : Nat) {a0 a1 a2 : Int} {m0 : zu_m} (hIm0 : zi_I m0) (hc0 : zcls a0 = 16) (ha1 : 0 ≤ a1 ∧ a1 ≤ 3) (ha2 : 0 ≤ a2 ∧ a2 ≤ 0)    (hRK54m0 : zR_K54 m0) : zw (zu_call (zt_T n) 216 [(27, a0), (0, a1), (0, a2)] m0) (fun v m => zi_I m ∧ zfr [(16, 10), (17, 4), (18, 6), (18, 7), (18, 8), (56, 0), (59, 1), (59, 2), (59, 3), (59, 4), (59, 5), (59, 6), (59, 7), (67, 0), (68, 0)] m0 m ∧ zR_K54 m ∧ True) := by
  have hFm0 : zfr [(16, 10), (17, 4), (18, 6), (18, 7), (18, 8), (56, 0), (59, 1), (59, 2), (59, 3), (59, 4), (59, 5), (59, 6), (59, 7), (67, 0), (68, 0)] m0 m0 := zfr_rf _ _
  refine zw_eq (zu_call_at (zt_T n) (zm_216 n) (zdp_216 n) _ _ _ _ _ rfl (zr_216_0 n _ _ a0 a1 a2 m0)) ?_
  have b67 : 0 ≤ a1 ∧ a1 < 4 := by omega
  refine zw_if b67 ?_
  have r68 : 0 ≤ (m0 ((a0 + 2) + 20 + a1) 1) ∧ (m0 ((a0 + 2) + 20 + a1) 1) ≤ 47 := zi_rd hIm0 (zc_66_e (zc_16_3 hc0) b67) zb_18_1
  have r69 : (-2147483648) ≤ (m0 ((a0 + 2) + 20 + a1) 6) ∧ (m0 ((a0 + 2) + 20 + a1) 6) ≤ 2147483647 := zi_rd hIm0 (zc_66_e (zc_16_3 hc0) b67) zb_18_6
  have hM : (16 - 0) * 1 + 0 < ((17 : Nat) : Int) := by omega
  exact (zl_216_16 n (m0 := m0) hc0 17) ((a0 + 2) + 20 + a1) (m0 ((a0 + 2) + 20 + a1) 1) (m0 ((a0 + 2) + 20 + a1) 6) 0 m0 hIm0 hFm0 ⟨by omega, by omega⟩ ⟨by omega, by omega⟩ (zc_66_e (zc_16_3 hc0) b67) ⟨by omega, by omega⟩ ⟨by omega, by omega⟩ ⟨by omega, by omega⟩ hRK54m0 hM

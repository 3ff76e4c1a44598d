/-! from and to of the other laws stay -/
def zfo (a : Int) (m0 m : zu_m) : Prop := ∀ i, i ≠ a → m 13 i = m0 13 i ∧ m 14 i = m0 14 i
theorem zfo_f {a : Int} {W : List (Nat × Nat)} {m0 m m' : zu_m} (h : zfo a m0 m) (hf : zfr W m m') (hd : zdis W [(35, 0), (36, 0)] = true) : zfo a m0 m' := fun i hi => ⟨(zdis_fr hf hd 13 i (by rw [zq_13]; rfl)).trans (h i hi).1, (zdis_fr hf hd 14 i (by rw [zq_14]; rfl)).trans (h i hi).2⟩
theorem zfo_ne {a : Int} {m0 m m' : zu_m} {b p v : Int} {c : Nat} (hm : zu_up m b p v = m') (h : zfo a m0 m) (hc : zcls b = c) (h1 : 35 ≠ c) (h2 : 36 ≠ c) : zfo a m0 m' := fun i hi => ⟨(zs_ne hm (Or.inl (zc_ne zq_13 hc h1))).trans (h i hi).1, (zs_ne hm (Or.inl (zc_ne zq_14 hc h2))).trans (h i hi).2⟩
theorem zfo_3 {a : Int} {m0 m m' : zu_m} {v : Int} (hm : zu_up m (10 + 3) a v = m') (h : zfo a m0 m) : zfo a m0 m' := fun i hi => ⟨(zs_ne hm (Or.inr hi)).trans (h i hi).1, (zs_ne hm (Or.inl (by decide))).trans (h i hi).2⟩
theorem zfo_4 {a : Int} {m0 m m' : zu_m} {v : Int} (hm : zu_up m (10 + 4) a v = m') (h : zfo a m0 m) : zfo a m0 m' := fun i hi => ⟨(zs_ne hm (Or.inl (by decide))).trans (h i hi).1, (zs_ne hm (Or.inr hi)).trans (h i hi).2⟩
set_option maxHeartbeats 4000000 in
theorem zl_198f (n : Nat) {a0 a1 : Int} {m0 : zu_m} (hc0 : zcls a0 = 10)   : ∀ k : Nat, (∀ (x2 : Int) (mh : zu_m), zi_I mh → zfr [(5, 6), (5, 7), (9, 4), (9, 5), (9, 6), (9, 7), (10, 4), (10, 5), (10, 7), (10, 8), (33, 0), (34, 0), (35, 0), (36, 0), (47, 0), (48, 0)] m0 mh → zfo a1 m0 mh → (0 ≤ a1 ∧ a1 ≤ 3) → (0 ≤ x2 ∧ x2 ≤ 701) → ((mh a0 4) ≤ zop mh) → (zR_BN mh) → (zR_K10 mh) → (701 - x2) * 1 + 0 < (k : Int) → zw (zu_ex (zt_T n) 198 45 [(24, a0), (0, a1), (0, x2), (2, 0)] [] mh) (fun v m => zi_I m ∧ zfr [(5, 6), (5, 7), (9, 4), (9, 5), (9, 6), (9, 7), (10, 4), (10, 5), (10, 7), (10, 8), (33, 0), (34, 0), (35, 0), (36, 0), (47, 0), (48, 0)] m0 m ∧ zfo a1 m0 m ∧ zR_BN m ∧ zR_K10 m ∧ (0 ≤ v ∧ v ≤ 2))) := by
  intro k
  induction k with
  | zero => exact fun x2 mh hImh hFmh hLmh hba1 hbx2 hH0 hRBNmh hRK10mh hM => by exfalso; omega
  | succ k ih =>
    intro x2 mh hImh hFmh hLmh hba1 hbx2 hH0 hRBNmh hRK10mh hM
    refine zw_eq (zu_rega_at (zt_T n) (zm_198 n) (zdp_198 n) _ _ _ _ _ _ (zr_198_45 n _ _ a0 a1 x2 mh)) ?_
    have r1 : 0 ≤ (mh a0 4) ∧ (mh a0 4) ≤ 8 := zi_rd hImh hc0 zb_10_4
    have g2 := zop_bd hImh hc0
    refine zw_ite (fun h3 => ?_) (fun h3 => ?_)
    · exact zw_some ⟨hImh, hFmh, hLmh, hRBNmh, hRK10mh, ⟨by decide, by decide⟩⟩
    · refine zw_bd (zw_mono (zk_18 n hImh zq_45) (fun v5 m4 hqm4 => ?_))
      obtain ⟨hIm4, hfm4, hvm4⟩ := hqm4
      have hFm4 := zfr_tr hFmh hfm4 rfl
      have hLm4 := zfo_f hLmh hfm4 rfl
      obtain ⟨hRTVm4, hvm4⟩ := hvm4
      have g6 := zop_fr (zdis_fr hfm4 rfl)
      have hRBNm4 := zR_BN_fr (zdis_fr hfm4 rfl) hRBNmh
      have hRK10m4 := zR_K10_fr (zdis_fr hfm4 rfl) hRK10mh
      have g7 := zop_bd hIm4 hc0
      have s8 := hRTVm4 45 zq_45
      have r9 : 0 ≤ (m4 a0 6) ∧ (m4 a0 6) ≤ 1 := zi_rd hIm4 hc0 zb_10_6
      refine zw_ite (fun h10 => ?_) (fun h10 => ?_)
      · refine zw_ite (fun h11 => ?_) (fun h11 => ?_)
        · exfalso; omega
        · have r12 : 0 ≤ (m4 a0 4) ∧ (m4 a0 4) ≤ 8 := zi_rd hIm4 hc0 zb_10_4
          have e13 : (m4 a0 4) = (mh a0 4) := (zfr_ap hfm4 hc0 rfl)
          refine zw_bd (zw_mono (zk_199 n hIm4 hc0 ⟨by omega, by omega⟩ (by omega) hRK10m4) (fun v15 m14 hqm14 => ?_))
          obtain ⟨hIm14, hfm14, hvm14⟩ := hqm14
          have hFm14 := zfr_tr hFm4 hfm14 rfl
          have hLm14 := zfo_f hLm4 hfm14 rfl
          obtain ⟨hRK10m14, hvm14⟩ := hvm14
          have hRBNm14 := zR_BN_fr (zdis_fr hfm14 rfl) hRBNm4
          have hRTVm14 := zR_TV_fr (zdis_fr hfm14 rfl) hRTVm4
          have g16 := zop_bd hIm14 hc0
          have s17 := hRTVm14 45 zq_45
          have r18 : 0 ≤ (m14 a0 4) ∧ (m14 a0 4) ≤ 8 := zi_rd hIm14 hc0 zb_10_4
          have y19 := (hvm14.1)
          have y20 := zhid_mk (hvm14.2)
          clear hvm14
          refine zw_ite (fun h21 => ?_) (fun h21 => ?_)
          · have s22 := (zhid_of y20) (by omega)
            have w23 := zu_w32_id (z := x2 + 1) (by omega) (by omega)
            have hM : (701 - (zu_w32 (x2 + 1))) * 1 + 0 < (k : Int) := by omega
            exact zw_le (zu_forget (zu_lr_same (zu_lr_same (zu_lr_same (zu_lr_drop zu_lr_nil))))) (ih (zu_w32 (x2 + 1)) m14 hIm14 hFm14 hLm14 ⟨by omega, by omega⟩ ⟨by omega, by omega⟩ (by omega) hRBNm14 hRK10m14 hM)
          · have s24 := zhid_of y20
            exact zw_some ⟨hIm14, hFm14, hLm14, hRBNm14, hRK10m14, ⟨by omega, by omega⟩⟩
      · have r25 : 0 ≤ (m4 a0 4) ∧ (m4 a0 4) ≤ 8 := zi_rd hIm4 hc0 zb_10_4
        have e26 : (m4 a0 4) = (mh a0 4) := (zfr_ap hfm4 hc0 rfl)
        refine zw_ite (fun h27 => ?_) (fun h27 => ?_)
        · refine zw_ite (fun h28 => ?_) (fun h28 => ?_)
          · refine zw_bd (zw_mono (zk_202 n hIm4 hc0 ⟨by omega, by omega⟩ (by omega) hRBNm4 hRK10m4 hRTVm4) (fun v30 m29 hqm29 => ?_))
            obtain ⟨hIm29, hfm29, hvm29⟩ := hqm29
            have hFm29 := zfr_tr hFm4 hfm29 rfl
            have hLm29 := zfo_f hLm4 hfm29 rfl
            obtain ⟨hRBNm29, hRK10m29, hRTVm29, hvm29⟩ := hvm29
            have g31 := zop_bd hIm29 hc0
            have s32 := hRTVm29 45 zq_45
            have r33 : 0 ≤ (m29 a0 4) ∧ (m29 a0 4) ≤ 8 := zi_rd hIm29 hc0 zb_10_4
            have y34 := (hvm29.1)
            have y35 := zhid_mk (hvm29.2)
            clear hvm29
            refine zw_ite (fun h36 => ?_) (fun h36 => ?_)
            · have s37 := (zhid_of y35) (by omega)
              have w38 := zu_w32_id (z := x2 + 1) (by omega) (by omega)
              have hM : (701 - (zu_w32 (x2 + 1))) * 1 + 0 < (k : Int) := by omega
              exact zw_le (zu_forget (zu_lr_same (zu_lr_same (zu_lr_same (zu_lr_drop zu_lr_nil))))) (ih (zu_w32 (x2 + 1)) m29 hIm29 hFm29 hLm29 ⟨by omega, by omega⟩ ⟨by omega, by omega⟩ (by omega) hRBNm29 hRK10m29 hM)
            · have s39 := zhid_of y35
              exact zw_some ⟨hIm29, hFm29, hLm29, hRBNm29, hRK10m29, ⟨by omega, by omega⟩⟩
          · exfalso; omega
        · refine zw_bd (zw_eq (zu_call_at (zt_T n) (zm_278 n) (zdp_278 n) _ _ _ _ _ rfl (zr_278_0 n _ _ 45 0 m4)) ?_)
          have r40 : 0 ≤ (m4 45 4) ∧ (m4 45 4) ≤ 5 := zi_rd hIm4 zq_45 zb_9_4
          refine zw_ite (fun h41 => ?_) (fun h41 => ?_)
          · refine zw_b (by omega) ?_
            refine zw_some ?_
            refine zw_ite (fun h42 => ?_) (fun h42 => ?_)
            · refine zw_ite (fun h43 => ?_) (fun h43 => ?_)
              · refine zw_bd (zw_mono (zk_202 n hIm4 hc0 ⟨by omega, by omega⟩ (by omega) hRBNm4 hRK10m4 hRTVm4) (fun v45 m44 hqm44 => ?_))
                obtain ⟨hIm44, hfm44, hvm44⟩ := hqm44
                have hFm44 := zfr_tr hFm4 hfm44 rfl
                have hLm44 := zfo_f hLm4 hfm44 rfl
                obtain ⟨hRBNm44, hRK10m44, hRTVm44, hvm44⟩ := hvm44
                have g46 := zop_bd hIm44 hc0
                have s47 := hRTVm44 45 zq_45
                have r48 : 0 ≤ (m44 a0 4) ∧ (m44 a0 4) ≤ 8 := zi_rd hIm44 hc0 zb_10_4
                have y49 := (hvm44.1)
                have y50 := zhid_mk (hvm44.2)
                clear hvm44
                refine zw_ite (fun h51 => ?_) (fun h51 => ?_)
                · have s52 := (zhid_of y50) (by omega)
                  have w53 := zu_w32_id (z := x2 + 1) (by omega) (by omega)
                  have hM : (701 - (zu_w32 (x2 + 1))) * 1 + 0 < (k : Int) := by omega
                  exact zw_le (zu_forget (zu_lr_same (zu_lr_same (zu_lr_same (zu_lr_drop zu_lr_nil))))) (ih (zu_w32 (x2 + 1)) m44 hIm44 hFm44 hLm44 ⟨by omega, by omega⟩ ⟨by omega, by omega⟩ (by omega) hRBNm44 hRK10m44 hM)
                · have s54 := zhid_of y50
                  exact zw_some ⟨hIm44, hFm44, hLm44, hRBNm44, hRK10m44, ⟨by omega, by omega⟩⟩
              · exfalso; omega
            · exfalso; omega
          · refine zw_ite (fun h55 => ?_) (fun h55 => ?_)
            · refine zw_b (by omega) ?_
              refine zw_some ?_
              refine zw_ite (fun h56 => ?_) (fun h56 => ?_)
              · refine zw_ite (fun h57 => ?_) (fun h57 => ?_)
                · refine zw_bd (zw_mono (zk_202 n hIm4 hc0 ⟨by omega, by omega⟩ (by omega) hRBNm4 hRK10m4 hRTVm4) (fun v59 m58 hqm58 => ?_))
                  obtain ⟨hIm58, hfm58, hvm58⟩ := hqm58
                  have hFm58 := zfr_tr hFm4 hfm58 rfl
                  have hLm58 := zfo_f hLm4 hfm58 rfl
                  obtain ⟨hRBNm58, hRK10m58, hRTVm58, hvm58⟩ := hvm58
                  have g60 := zop_bd hIm58 hc0
                  have s61 := hRTVm58 45 zq_45
                  have r62 : 0 ≤ (m58 a0 4) ∧ (m58 a0 4) ≤ 8 := zi_rd hIm58 hc0 zb_10_4
                  have y63 := (hvm58.1)
                  have y64 := zhid_mk (hvm58.2)
                  clear hvm58
                  refine zw_ite (fun h65 => ?_) (fun h65 => ?_)
                  · have s66 := (zhid_of y64) (by omega)
                    have w67 := zu_w32_id (z := x2 + 1) (by omega) (by omega)
                    have hM : (701 - (zu_w32 (x2 + 1))) * 1 + 0 < (k : Int) := by omega
                    exact zw_le (zu_forget (zu_lr_same (zu_lr_same (zu_lr_same (zu_lr_drop zu_lr_nil))))) (ih (zu_w32 (x2 + 1)) m58 hIm58 hFm58 hLm58 ⟨by omega, by omega⟩ ⟨by omega, by omega⟩ (by omega) hRBNm58 hRK10m58 hM)
                  · have s68 := zhid_of y64
                    exact zw_some ⟨hIm58, hFm58, hLm58, hRBNm58, hRK10m58, ⟨by omega, by omega⟩⟩
                · exfalso; omega
              · exfalso; omega
            · refine zw_b (by omega) ?_
              refine zw_some ?_
              refine zw_ite (fun h69 => ?_) (fun h69 => ?_)
              · exfalso; omega
              · refine zw_bd (zw_mono (zk_206 n hIm4 hc0 ⟨by decide, by decide⟩ (by omega) hRBNm4 hRK10m4) (fun v71 m70 hqm70 => ?_))
                obtain ⟨hIm70, hfm70, hvm70⟩ := hqm70
                have hFm70 := zfr_tr hFm4 hfm70 rfl
                have hLm70 := zfo_f hLm4 hfm70 rfl
                obtain ⟨hRBNm70, hRK10m70, hvm70⟩ := hvm70
                have hRTVm70 := zR_TV_fr (zdis_fr hfm70 rfl) hRTVm4
                have g72 := zop_bd hIm70 hc0
                have s73 := hRTVm70 45 zq_45
                have r74 : 0 ≤ (m70 10 6) ∧ (m70 10 6) ≤ 64 := zi_rd hIm70 zq_10 zb_5_6
                have b75 : 0 ≤ a1 ∧ a1 < 4 := by omega
                refine zw_if b75 ?_
                generalize hmm76 : zu_up m70 (10 + 4) a1 (m70 10 6) = m76
                have hIm76 := zi_up hmm76 hIm70 (zc_5_3 zq_10) (zb_36 _) (by omega) (by omega)
                have hFm76 := zfr_up hmm76 hFm70 (zc_5_3 zq_10) rfl
                have hLm76 := zfo_4 hmm76 hLm70
                have g77 := zop_fr (zdis_fr (zfr_up hmm76 (zfr_rf [(36, 0)] _) (zc_5_3 zq_10) rfl) rfl)
                have hRBNm76 := zR_BN_fr (zdis_fr (zfr_up hmm76 (zfr_rf [(36, 0)] _) (zc_5_3 zq_10) rfl) rfl) hRBNm70
                have hRK10m76 := zR_K10_fr (zdis_fr (zfr_up hmm76 (zfr_rf [(36, 0)] _) (zc_5_3 zq_10) rfl) rfl) hRK10m70
                have hRTVm76 := zR_TV_fr (zdis_fr (zfr_up hmm76 (zfr_rf [(36, 0)] _) (zc_5_3 zq_10) rfl) rfl) hRTVm70
                exact zw_some ⟨hIm76, hFm76, hLm76, hRBNm76, hRK10m76, ⟨by decide, by decide⟩⟩
set_option maxHeartbeats 4000000 in
theorem zk_198f (n : Nat) {a0 a1 : Int} {m0 : zu_m} (hIm0 : zi_I m0) (hc0 : zcls a0 = 10) (ha1 : 0 ≤ a1 ∧ a1 ≤ 3)    (hRBNm0 : zR_BN m0) (hRK10m0 : zR_K10 m0) : zw (zu_call (zt_T n) 198 [(24, a0), (0, a1)] m0) (fun v m => zi_I m ∧ zfr [(5, 6), (5, 7), (9, 4), (9, 5), (9, 6), (9, 7), (10, 4), (10, 5), (10, 7), (10, 8), (33, 0), (34, 0), (35, 0), (36, 0), (47, 0), (48, 0)] m0 m ∧ zfo a1 m0 m ∧ zR_BN m ∧ zR_K10 m ∧ (0 ≤ v ∧ v ≤ 2)) := by
  have hFm0 : zfr [(5, 6), (5, 7), (9, 4), (9, 5), (9, 6), (9, 7), (10, 4), (10, 5), (10, 7), (10, 8), (33, 0), (34, 0), (35, 0), (36, 0), (47, 0), (48, 0)] m0 m0 := zfr_rf _ _
  have hLm0 : zfo a1 m0 m0 := fun _ _ => ⟨rfl, rfl⟩
  have g78 := zop_bd hIm0 hc0
  refine zw_eq (zu_call_at (zt_T n) (zm_198 n) (zdp_198 n) _ _ _ _ _ rfl (zr_198_0 n _ _ a0 a1 m0)) ?_
  have r79 : 0 ≤ (m0 10 6) ∧ (m0 10 6) ≤ 64 := zi_rd hIm0 zq_10 zb_5_6
  have b80 : 0 ≤ a1 ∧ a1 < 4 := by omega
  refine zw_if b80 ?_
  generalize hmm81 : zu_up m0 (10 + 3) a1 (m0 10 6) = m81
  have hIm81 := zi_up hmm81 hIm0 (zc_5_2 zq_10) (zb_35 _) (by omega) (by omega)
  have hFm81 := zfr_up hmm81 hFm0 (zc_5_2 zq_10) rfl
  have hLm81 := zfo_3 hmm81 hLm0
  have g82 := zop_fr (zdis_fr (zfr_up hmm81 (zfr_rf [(35, 0)] _) (zc_5_2 zq_10) rfl) rfl)
  have hRBNm81 := zR_BN_fr (zdis_fr (zfr_up hmm81 (zfr_rf [(35, 0)] _) (zc_5_2 zq_10) rfl) rfl) hRBNm0
  have hRK10m81 := zR_K10_fr (zdis_fr (zfr_up hmm81 (zfr_rf [(35, 0)] _) (zc_5_2 zq_10) rfl) rfl) hRK10m0
  generalize hmm83 : zu_up m81 a0 3 0 = m83
  have hIm83 := zi_up hmm83 hIm81 hc0 zb_10_3 (by omega) (by omega)
  have hFm83 := zfr_up hmm83 hFm81 hc0 rfl
  have hLm83 := zfo_ne hmm83 hLm81 hc0 (by decide) (by decide)
  have hRBNm83 := zR_BN_fr (zdis_fr (zfr_up hmm83 (zfr_rf [(10, 4)] _) hc0 rfl) rfl) hRBNm81
  have hRK10m83 := zR_K10_fr (zdis_fr (zfr_up hmm83 (zfr_rf [(10, 4)] _) hc0 rfl) rfl) hRK10m81
  have g84 := zop_zero hmm83 hc0
  generalize hmm85 : zu_up m83 a0 4 0 = m85
  have hIm85 := zi_up hmm85 hIm83 hc0 zb_10_4 (by omega) (by omega)
  have hFm85 := zfr_up hmm85 hFm83 hc0 rfl
  have hLm85 := zfo_ne hmm85 hLm83 hc0 (by decide) (by decide)
  have g86 := zop_fr (zdis_fr (zfr_up hmm85 (zfr_rf [(10, 5)] _) hc0 rfl) rfl)
  have hRBNm85 := zR_BN_fr (zdis_fr (zfr_up hmm85 (zfr_rf [(10, 5)] _) hc0 rfl) rfl) hRBNm83
  have hRK10m85 := zR_K10_fr (zdis_fr (zfr_up hmm85 (zfr_rf [(10, 5)] _) hc0 rfl) rfl) hRK10m83
  refine zw_b (by omega) ?_
  have b87 : 0 ≤ (0 : Int) ∧ (0 : Int) < 9 := by omega
  refine zw_if b87 ?_
  generalize hmm88 : zu_up m85 49 0 0 = m88
  have hIm88 := zi_up hmm88 hIm85 zq_49 (zb_48 _) (by omega) (by omega)
  have hFm88 := zfr_up hmm88 hFm85 zq_49 rfl
  have hLm88 := zfo_ne hmm88 hLm85 zq_49 (by decide) (by decide)
  have g89 := zop_fr (zdis_fr (zfr_up hmm88 (zfr_rf [(48, 0)] _) zq_49 rfl) rfl)
  have hRBNm88 := zR_BN_fr (zdis_fr (zfr_up hmm88 (zfr_rf [(48, 0)] _) zq_49 rfl) rfl) hRBNm85
  have hRK10m88 := zR_K10_fr (zdis_fr (zfr_up hmm88 (zfr_rf [(48, 0)] _) zq_49 rfl) rfl) hRK10m85
  refine zw_b (by omega) ?_
  generalize hmm90 : zu_up m88 a0 6 1 = m90
  have hIm90 := zi_up hmm90 hIm88 hc0 zb_10_6 (by omega) (by omega)
  have hFm90 := zfr_up hmm90 hFm88 hc0 rfl
  have hLm90 := zfo_ne hmm90 hLm88 hc0 (by decide) (by decide)
  have g91 := zop_fr (zdis_fr (zfr_up hmm90 (zfr_rf [(10, 7)] _) hc0 rfl) rfl)
  have hRBNm90 := zR_BN_fr (zdis_fr (zfr_up hmm90 (zfr_rf [(10, 7)] _) hc0 rfl) rfl) hRBNm88
  have hRK10m90 := zR_K10_fr (zdis_fr (zfr_up hmm90 (zfr_rf [(10, 7)] _) hc0 rfl) rfl) hRK10m88
  refine zw_b (by omega) ?_
  generalize hmm92 : zu_up m90 a0 7 1 = m92
  have hIm92 := zi_up hmm92 hIm90 hc0 zb_10_7 (by omega) (by omega)
  have hFm92 := zfr_up hmm92 hFm90 hc0 rfl
  have hLm92 := zfo_ne hmm92 hLm90 hc0 (by decide) (by decide)
  have g93 := zop_fr (zdis_fr (zfr_up hmm92 (zfr_rf [(10, 8)] _) hc0 rfl) rfl)
  have hRBNm92 := zR_BN_fr (zdis_fr (zfr_up hmm92 (zfr_rf [(10, 8)] _) hc0 rfl) rfl) hRBNm90
  have hRK10m92 := zR_K10_fr (zdis_fr (zfr_up hmm92 (zfr_rf [(10, 8)] _) hc0 rfl) rfl) hRK10m90
  have r94 : 0 ≤ (m92 a0 4) ∧ (m92 a0 4) ≤ 8 := zi_rd hIm92 hc0 zb_10_4
  have e95 : (m92 a0 4) = 0 := (Eq.trans (zs_ne hmm92 (Or.inr (by decide))) (Eq.trans (zs_ne hmm90 (Or.inr (by decide))) (Eq.trans (zs_ne hmm88 (Or.inl (zc_ne hc0 zq_49 (by decide)))) (zs_eq hmm85))))
  have hM : (701 - 0) * 1 + 0 < ((702 : Nat) : Int) := by omega
  exact (zl_198f n (m0 := m0) hc0 702) 0 m92 hIm92 hFm92 hLm92 ⟨by omega, by omega⟩ ⟨by omega, by omega⟩ (by omega) hRBNm92 hRK10m92 hM

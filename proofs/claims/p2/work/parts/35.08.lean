set_option maxHeartbeats 4000000 in
theorem zl_216_25 (n : Nat) {a0 a1 a2 : Int} {m0 : zu_m} (hc0 : zcls a0 = 25)  : ∀ k : Nat, (∀ (x3 x4 x5 x6 : Int) (mh : zu_m), zi_I mh → zfr [(25, 10), (26, 4), (27, 6), (27, 7), (27, 8), (56, 0), (59, 0), (97, 0), (98, 0)] m0 mh → (0 ≤ a1 ∧ a1 ≤ 3) → (0 ≤ a2 ∧ a2 ≤ 1) → (zcls x3 = 27) → (0 ≤ x4 ∧ x4 ≤ 47) → ((-2147483648) ≤ x5 ∧ x5 ≤ 2147483647) → (0 ≤ x6 ∧ x6 ≤ 16) → (zR_K54 mh) → (16 - x6) * 1 + 0 < (k : Int) → zw (zu_ex (zt_T n) 216 22 [(27, a0), (0, a1), (0, a2), (21, x3), (0, x4), (0, x5), (0, x6), (2, 0), (2, 0)] [] mh) (fun v m => zi_I m ∧ zfr [(25, 10), (26, 4), (27, 6), (27, 7), (27, 8), (56, 0), (59, 0), (97, 0), (98, 0)] m0 m ∧ zR_K54 m ∧ True)) := by
  intro k
  induction k with
  | zero => exact fun x3 x4 x5 x6 mh hImh hFmh hba1 hba2 hx3 hbx4 hbx5 hbx6 hRK54mh hM => by exfalso; omega
  | succ k ih =>
    intro x3 x4 x5 x6 mh hImh hFmh hba1 hba2 hx3 hbx4 hbx5 hbx6 hRK54mh hM
    refine zw_eq (zr_216_22 n a0 a1 a2 x3 x4 x5 x6 mh) ?_
    have r1 : 0 ≤ (mh a0 2) ∧ (mh a0 2) ≤ 16 := zi_rd hImh hc0 zb_25_2
    refine zw_ite (fun h2 => ?_) (fun h2 => ?_)
    · refine zw_ite (fun h3 => ?_) (fun h3 => ?_)
      · generalize hmm4 : zu_up mh x3 7 (-1) = m4
        have hIm4 := zi_up hmm4 hImh hx3 zb_27_7 (by omega) (by omega)
        have hFm4 := zfr_up hmm4 hFmh hx3 rfl
        have hRK54m4 := zR_K54_fr (zdis_fr (zfr_up hmm4 (zfr_rf [(27, 8)] _) hx3 rfl) rfl) hRK54mh
        have r5 : (-2147483648) ≤ (m4 x3 5) ∧ (m4 x3 5) ≤ 2147483647 := zi_rd hIm4 hx3 zb_27_5
        have w6 := zu_w32_rg ((m4 x3 5) + 1)
        generalize hmm7 : zu_up m4 x3 5 (zu_w32 ((m4 x3 5) + 1)) = m7
        have hIm7 := zi_up hmm7 hIm4 hx3 zb_27_5 (by omega) (by omega)
        have hFm7 := zfr_up hmm7 hFm4 hx3 rfl
        have hRK54m7 := zR_K54_fr (zdis_fr (zfr_up hmm7 (zfr_rf [(27, 6)] _) hx3 rfl) rfl) hRK54m4
        refine zw_b (by omega) ?_
        have b8 : 0 ≤ x4 ∧ x4 < 48 := by omega
        refine zw_if b8 ?_
        generalize hmm9 : zu_up m7 (a0 + 3) x4 1 = m9
        have hIm9 := zi_up hmm9 hIm7 (zc_25_5 hc0) (zb_97 _) (by omega) (by omega)
        have hFm9 := zfr_up hmm9 hFm7 (zc_25_5 hc0) rfl
        have hRK54m9 := zR_K54_fr (zdis_fr (zfr_up hmm9 (zfr_rf [(97, 0)] _) (zc_25_5 hc0) rfl) rfl) hRK54m7
        have b10 : 0 ≤ x4 ∧ x4 < 48 := by omega
        refine zw_if b10 ?_
        have r11 : 0 ≤ (m9 (a0 + 4) x4) ∧ (m9 (a0 + 4) x4) ≤ 999000 := zi_rd hIm9 (zc_25_6 hc0) (zb_98 _)
        refine zw_bd (zw_mono (zk_254 n hIm9 zq_50 ⟨by omega, by omega⟩ ⟨by omega, by omega⟩ ⟨by omega, by omega⟩) (fun v13 m12 hqm12 => ?_))
        obtain ⟨hIm12, hfm12, hvm12⟩ := hqm12
        have hFm12 := zfr_tr hFm9 hfm12 rfl
        have hRK54m12 := zR_K54_fr (zdis_fr hfm12 rfl) hRK54m9
        have b14 : 0 ≤ x4 ∧ x4 < 48 := by omega
        refine zw_if b14 ?_
        generalize hmm15 : zu_up m12 (a0 + 4) x4 v13 = m15
        have hIm15 := zi_up hmm15 hIm12 (zc_25_6 hc0) (zb_98 _) (by omega) (by omega)
        have hFm15 := zfr_up hmm15 hFm12 (zc_25_6 hc0) rfl
        have hRK54m15 := zR_K54_fr (zdis_fr (zfr_up hmm15 (zfr_rf [(98, 0)] _) (zc_25_6 hc0) rfl) rfl) hRK54m12
        exact zw_some ⟨hIm15, hFm15, hRK54m15, trivial⟩
      · have r16 : (-2147483648) ≤ (mh x3 6) ∧ (mh x3 6) ≤ 2147483647 := zi_rd hImh hx3 zb_27_6
        refine zw_ite (fun h17 => ?_) (fun h17 => ?_)
        · generalize hmm18 : zu_up mh x3 7 (-1) = m18
          have hIm18 := zi_up hmm18 hImh hx3 zb_27_7 (by omega) (by omega)
          have hFm18 := zfr_up hmm18 hFmh hx3 rfl
          have hRK54m18 := zR_K54_fr (zdis_fr (zfr_up hmm18 (zfr_rf [(27, 8)] _) hx3 rfl) rfl) hRK54mh
          have r19 : (-2147483648) ≤ (m18 x3 5) ∧ (m18 x3 5) ≤ 2147483647 := zi_rd hIm18 hx3 zb_27_5
          have w20 := zu_w32_rg ((m18 x3 5) + 1)
          generalize hmm21 : zu_up m18 x3 5 (zu_w32 ((m18 x3 5) + 1)) = m21
          have hIm21 := zi_up hmm21 hIm18 hx3 zb_27_5 (by omega) (by omega)
          have hFm21 := zfr_up hmm21 hFm18 hx3 rfl
          have hRK54m21 := zR_K54_fr (zdis_fr (zfr_up hmm21 (zfr_rf [(27, 6)] _) hx3 rfl) rfl) hRK54m18
          refine zw_b (by omega) ?_
          have b22 : 0 ≤ x4 ∧ x4 < 48 := by omega
          refine zw_if b22 ?_
          generalize hmm23 : zu_up m21 (a0 + 3) x4 1 = m23
          have hIm23 := zi_up hmm23 hIm21 (zc_25_5 hc0) (zb_97 _) (by omega) (by omega)
          have hFm23 := zfr_up hmm23 hFm21 (zc_25_5 hc0) rfl
          have hRK54m23 := zR_K54_fr (zdis_fr (zfr_up hmm23 (zfr_rf [(97, 0)] _) (zc_25_5 hc0) rfl) rfl) hRK54m21
          have b24 : 0 ≤ x4 ∧ x4 < 48 := by omega
          refine zw_if b24 ?_
          have r25 : 0 ≤ (m23 (a0 + 4) x4) ∧ (m23 (a0 + 4) x4) ≤ 999000 := zi_rd hIm23 (zc_25_6 hc0) (zb_98 _)
          refine zw_bd (zw_mono (zk_254 n hIm23 zq_50 ⟨by omega, by omega⟩ ⟨by omega, by omega⟩ ⟨by omega, by omega⟩) (fun v27 m26 hqm26 => ?_))
          obtain ⟨hIm26, hfm26, hvm26⟩ := hqm26
          have hFm26 := zfr_tr hFm23 hfm26 rfl
          have hRK54m26 := zR_K54_fr (zdis_fr hfm26 rfl) hRK54m23
          have b28 : 0 ≤ x4 ∧ x4 < 48 := by omega
          refine zw_if b28 ?_
          generalize hmm29 : zu_up m26 (a0 + 4) x4 v27 = m29
          have hIm29 := zi_up hmm29 hIm26 (zc_25_6 hc0) (zb_98 _) (by omega) (by omega)
          have hFm29 := zfr_up hmm29 hFm26 (zc_25_6 hc0) rfl
          have hRK54m29 := zR_K54_fr (zdis_fr (zfr_up hmm29 (zfr_rf [(98, 0)] _) (zc_25_6 hc0) rfl) rfl) hRK54m26
          exact zw_some ⟨hIm29, hFm29, hRK54m29, trivial⟩
        · generalize hmm30 : zu_up mh x3 7 x4 = m30
          have hIm30 := zi_up hmm30 hImh hx3 zb_27_7 (by omega) (by omega)
          have hFm30 := zfr_up hmm30 hFmh hx3 rfl
          have hRK54m30 := zR_K54_fr (zdis_fr (zfr_up hmm30 (zfr_rf [(27, 8)] _) hx3 rfl) rfl) hRK54mh
          have r31 : (-2147483648) ≤ (m30 x3 5) ∧ (m30 x3 5) ≤ 2147483647 := zi_rd hIm30 hx3 zb_27_5
          have w32 := zu_w32_rg ((m30 x3 5) + 1)
          generalize hmm33 : zu_up m30 x3 5 (zu_w32 ((m30 x3 5) + 1)) = m33
          have hIm33 := zi_up hmm33 hIm30 hx3 zb_27_5 (by omega) (by omega)
          have hFm33 := zfr_up hmm33 hFm30 hx3 rfl
          have hRK54m33 := zR_K54_fr (zdis_fr (zfr_up hmm33 (zfr_rf [(27, 6)] _) hx3 rfl) rfl) hRK54m30
          refine zw_b (by omega) ?_
          have b34 : 0 ≤ x4 ∧ x4 < 48 := by omega
          refine zw_if b34 ?_
          generalize hmm35 : zu_up m33 (a0 + 3) x4 1 = m35
          have hIm35 := zi_up hmm35 hIm33 (zc_25_5 hc0) (zb_97 _) (by omega) (by omega)
          have hFm35 := zfr_up hmm35 hFm33 (zc_25_5 hc0) rfl
          have hRK54m35 := zR_K54_fr (zdis_fr (zfr_up hmm35 (zfr_rf [(97, 0)] _) (zc_25_5 hc0) rfl) rfl) hRK54m33
          have b36 : 0 ≤ x4 ∧ x4 < 48 := by omega
          refine zw_if b36 ?_
          have r37 : 0 ≤ (m35 (a0 + 4) x4) ∧ (m35 (a0 + 4) x4) ≤ 999000 := zi_rd hIm35 (zc_25_6 hc0) (zb_98 _)
          refine zw_bd (zw_mono (zk_254 n hIm35 zq_50 ⟨by omega, by omega⟩ ⟨by omega, by omega⟩ ⟨by omega, by omega⟩) (fun v39 m38 hqm38 => ?_))
          obtain ⟨hIm38, hfm38, hvm38⟩ := hqm38
          have hFm38 := zfr_tr hFm35 hfm38 rfl
          have hRK54m38 := zR_K54_fr (zdis_fr hfm38 rfl) hRK54m35
          have b40 : 0 ≤ x4 ∧ x4 < 48 := by omega
          refine zw_if b40 ?_
          generalize hmm41 : zu_up m38 (a0 + 4) x4 v39 = m41
          have hIm41 := zi_up hmm41 hIm38 (zc_25_6 hc0) (zb_98 _) (by omega) (by omega)
          have hFm41 := zfr_up hmm41 hFm38 (zc_25_6 hc0) rfl
          have hRK54m41 := zR_K54_fr (zdis_fr (zfr_up hmm41 (zfr_rf [(98, 0)] _) (zc_25_6 hc0) rfl) rfl) hRK54m38
          exact zw_some ⟨hIm41, hFm41, hRK54m41, trivial⟩
    · refine zw_ite (fun h42 => ?_) (fun h42 => ?_)
      · have b43 : 0 ≤ x6 ∧ x6 < 16 := by omega
        refine zw_if b43 ?_
        have r44 : (-3) ≤ (mh ((a0 + 1) + 5 + x6) 3) ∧ (mh ((a0 + 1) + 5 + x6) 3) ≤ 3 := zi_rd hImh (zc_95_e (zc_25_1 hc0) b43) zb_26_3
        refine zw_ite (fun h45 => ?_) (fun h45 => ?_)
        · have w46 := zu_w32_id (z := x6 + 1) (by omega) (by omega)
          have hM : (16 - (zu_w32 (x6 + 1))) * 1 + 0 < (k : Int) := by omega
          exact zw_le (zu_forget (zu_lr_same (zu_lr_same (zu_lr_same (zu_lr_same (zu_lr_same (zu_lr_same (zu_lr_same (zu_lr_drop (zu_lr_same zu_lr_nil)))))))))) (ih x3 x4 x5 (zu_w32 (x6 + 1)) mh hImh hFmh ⟨by omega, by omega⟩ ⟨by omega, by omega⟩ hx3 ⟨by omega, by omega⟩ ⟨by omega, by omega⟩ ⟨by omega, by omega⟩ hRK54mh hM)
        · have r47 : 0 ≤ (mh ((a0 + 1) + 5 + x6) 0) ∧ (mh ((a0 + 1) + 5 + x6) 0) ≤ 47 := zi_rd hImh (zc_95_e (zc_25_1 hc0) b43) zb_26_0
          refine zw_ite (fun h48 => ?_) (fun h48 => ?_)
          · have w49 := zu_w32_id (z := x6 + 1) (by omega) (by omega)
            have hM : (16 - (zu_w32 (x6 + 1))) * 1 + 0 < (k : Int) := by omega
            exact zw_le (zu_forget (zu_lr_same (zu_lr_same (zu_lr_same (zu_lr_same (zu_lr_same (zu_lr_same (zu_lr_same (zu_lr_drop (zu_lr_same zu_lr_nil)))))))))) (ih x3 x4 x5 (zu_w32 (x6 + 1)) mh hImh hFmh ⟨by omega, by omega⟩ ⟨by omega, by omega⟩ hx3 ⟨by omega, by omega⟩ ⟨by omega, by omega⟩ ⟨by omega, by omega⟩ hRK54mh hM)
          · have r50 : 0 ≤ (mh ((a0 + 1) + 5 + x6) 1) ∧ (mh ((a0 + 1) + 5 + x6) 1) ≤ 3 := zi_rd hImh (zc_95_e (zc_25_1 hc0) b43) zb_26_1
            refine zw_bd (zw_eq (zr_217_0 n a0 a1 (mh ((a0 + 1) + 5 + x6) 1) mh) ?_)
            have r51 : 0 ≤ (mh a0 10) ∧ (mh a0 10) ≤ 3 := zi_rd hImh hc0 zb_25_10
            refine zw_ite (fun h52 => ?_) (fun h52 => ?_)
            · refine zw_b (by omega) ?_
              refine zw_some ?_
              refine zw_ite (fun h53 => ?_) (fun h53 => ?_)
              · exfalso; omega
              · refine zw_ite (fun h54 => ?_) (fun h54 => ?_)
                · refine zw_bd (zw_mono (zk_215_25 n hImh hc0) (fun v56 m55 hqm55 => ?_))
                  obtain ⟨hIm55, hfm55, hvm55⟩ := hqm55
                  have hFm55 := zfr_tr hFmh hfm55 rfl
                  have hRK54m55 := zR_K54_fr (zdis_fr hfm55 rfl) hRK54mh
                  refine zw_nif (by omega) ?_
                  have d57 := ztmod_b2 (x := v56) (y := 100) (by omega)
                  have r58 : (-2147483648) ≤ (m55 x3 6) ∧ (m55 x3 6) ≤ 2147483647 := zi_rd hIm55 hx3 zb_27_6
                  refine zw_bd (zw_mono (zk_224_25 n hIm55 hc0 ⟨by omega, by omega⟩ ⟨by omega, by omega⟩ ⟨by omega, by omega⟩) (fun v60 m59 hqm59 => ?_))
                  obtain ⟨hIm59, hfm59, hvm59⟩ := hqm59
                  have hFm59 := zfr_tr hFm55 hfm59 rfl
                  have hRK54m59 := zR_K54_fr (zdis_fr hfm59 rfl) hRK54m55
                  refine zw_bd (zw_mono (zk_250 n hIm59 zq_50 hRK54m59) (fun v62 m61 hqm61 => ?_))
                  obtain ⟨hIm61, hfm61, hvm61⟩ := hqm61
                  have hFm61 := zfr_tr hFm59 hfm61 rfl
                  obtain ⟨hRK54m61, hvm61⟩ := hvm61
                  refine zw_ite (fun h63 => ?_) (fun h63 => ?_)
                  · have w64 := zu_w32_id (z := x6 + 1) (by omega) (by omega)
                    have hM : (16 - (zu_w32 (x6 + 1))) * 1 + 0 < (k : Int) := by omega
                    exact zw_le (zu_forget (zu_lr_same (zu_lr_same (zu_lr_same (zu_lr_same (zu_lr_same (zu_lr_same (zu_lr_same (zu_lr_drop (zu_lr_drop zu_lr_nil)))))))))) (ih x3 x4 x5 (zu_w32 (x6 + 1)) m61 hIm61 hFm61 ⟨by omega, by omega⟩ ⟨by omega, by omega⟩ hx3 ⟨by omega, by omega⟩ ⟨by omega, by omega⟩ ⟨by omega, by omega⟩ hRK54m61 hM)
                  · generalize hmm65 : zu_up m61 ((a0 + 1) + 5 + x6) 3 a1 = m65
                    have hIm65 := zi_up hmm65 hIm61 (zc_95_e (zc_25_1 hc0) b43) zb_26_3 (by omega) (by omega)
                    have hFm65 := zfr_up hmm65 hFm61 (zc_95_e (zc_25_1 hc0) b43) rfl
                    have hRK54m65 := zR_K54_fr (zdis_fr (zfr_up hmm65 (zfr_rf [(26, 4)] _) (zc_95_e (zc_25_1 hc0) b43) rfl) rfl) hRK54m61
                    have r66 : (-2147483648) ≤ (m65 x3 6) ∧ (m65 x3 6) ≤ 2147483647 := zi_rd hIm65 hx3 zb_27_6
                    have e67 : (m65 x3 6) = (m55 x3 6) := (Eq.trans (zs_ne hmm65 (Or.inl (zc_ne hx3 (zc_95_e (zc_25_1 hc0) b43) (by decide)))) (Eq.trans (zfr_ap hfm61 hx3 rfl) (zfr_ap hfm59 hx3 rfl)))
                    have w68 := zu_w32_rg ((m65 x3 6) + 1)
                    generalize hmm69 : zu_up m65 x3 6 (zu_w32 ((m65 x3 6) + 1)) = m69
                    have hIm69 := zi_up hmm69 hIm65 hx3 zb_27_6 (by omega) (by omega)
                    have hFm69 := zfr_up hmm69 hFm65 hx3 rfl
                    have hRK54m69 := zR_K54_fr (zdis_fr (zfr_up hmm69 (zfr_rf [(27, 7)] _) hx3 rfl) rfl) hRK54m65
                    have w70 := zu_w32_id (z := x6 + 1) (by omega) (by omega)
                    have hM : (16 - (zu_w32 (x6 + 1))) * 1 + 0 < (k : Int) := by omega
                    exact zw_le (zu_forget (zu_lr_same (zu_lr_same (zu_lr_same (zu_lr_same (zu_lr_same (zu_lr_same (zu_lr_same (zu_lr_drop (zu_lr_drop zu_lr_nil)))))))))) (ih x3 x4 x5 (zu_w32 (x6 + 1)) m69 hIm69 hFm69 ⟨by omega, by omega⟩ ⟨by omega, by omega⟩ hx3 ⟨by omega, by omega⟩ ⟨by omega, by omega⟩ ⟨by omega, by omega⟩ hRK54m69 hM)
                · exfalso; omega
            · refine zw_nif (by omega) ?_
              have d71 : Int.tmod a1 4 = a1 % 4 := Int.tmod_eq_emod_of_nonneg (by omega)
              refine zw_ite (fun h72 => ?_) (fun h72 => ?_)
              · refine zw_b (by omega) ?_
                refine zw_some ?_
                refine zw_ite (fun h73 => ?_) (fun h73 => ?_)
                · have w74 := zu_w32_id (z := x6 + 1) (by omega) (by omega)
                  have hM : (16 - (zu_w32 (x6 + 1))) * 1 + 0 < (k : Int) := by omega
                  exact zw_le (zu_forget (zu_lr_same (zu_lr_same (zu_lr_same (zu_lr_same (zu_lr_same (zu_lr_same (zu_lr_same (zu_lr_drop (zu_lr_same zu_lr_nil)))))))))) (ih x3 x4 x5 (zu_w32 (x6 + 1)) mh hImh hFmh ⟨by omega, by omega⟩ ⟨by omega, by omega⟩ hx3 ⟨by omega, by omega⟩ ⟨by omega, by omega⟩ ⟨by omega, by omega⟩ hRK54mh hM)
                · exfalso; omega
              · refine zw_b (by omega) ?_
                refine zw_some ?_
                refine zw_ite (fun h75 => ?_) (fun h75 => ?_)
                · exfalso; omega
                · refine zw_ite (fun h76 => ?_) (fun h76 => ?_)
                  · refine zw_bd (zw_mono (zk_215_25 n hImh hc0) (fun v78 m77 hqm77 => ?_))
                    obtain ⟨hIm77, hfm77, hvm77⟩ := hqm77
                    have hFm77 := zfr_tr hFmh hfm77 rfl
                    have hRK54m77 := zR_K54_fr (zdis_fr hfm77 rfl) hRK54mh
                    refine zw_nif (by omega) ?_
                    have d79 := ztmod_b2 (x := v78) (y := 100) (by omega)
                    have r80 : (-2147483648) ≤ (m77 x3 6) ∧ (m77 x3 6) ≤ 2147483647 := zi_rd hIm77 hx3 zb_27_6
                    refine zw_bd (zw_mono (zk_224_25 n hIm77 hc0 ⟨by omega, by omega⟩ ⟨by omega, by omega⟩ ⟨by omega, by omega⟩) (fun v82 m81 hqm81 => ?_))
                    obtain ⟨hIm81, hfm81, hvm81⟩ := hqm81
                    have hFm81 := zfr_tr hFm77 hfm81 rfl
                    have hRK54m81 := zR_K54_fr (zdis_fr hfm81 rfl) hRK54m77
                    refine zw_bd (zw_mono (zk_250 n hIm81 zq_50 hRK54m81) (fun v84 m83 hqm83 => ?_))
                    obtain ⟨hIm83, hfm83, hvm83⟩ := hqm83
                    have hFm83 := zfr_tr hFm81 hfm83 rfl
                    obtain ⟨hRK54m83, hvm83⟩ := hvm83
                    refine zw_ite (fun h85 => ?_) (fun h85 => ?_)
                    · have w86 := zu_w32_id (z := x6 + 1) (by omega) (by omega)
                      have hM : (16 - (zu_w32 (x6 + 1))) * 1 + 0 < (k : Int) := by omega
                      exact zw_le (zu_forget (zu_lr_same (zu_lr_same (zu_lr_same (zu_lr_same (zu_lr_same (zu_lr_same (zu_lr_same (zu_lr_drop (zu_lr_drop zu_lr_nil)))))))))) (ih x3 x4 x5 (zu_w32 (x6 + 1)) m83 hIm83 hFm83 ⟨by omega, by omega⟩ ⟨by omega, by omega⟩ hx3 ⟨by omega, by omega⟩ ⟨by omega, by omega⟩ ⟨by omega, by omega⟩ hRK54m83 hM)
                    · generalize hmm87 : zu_up m83 ((a0 + 1) + 5 + x6) 3 a1 = m87
                      have hIm87 := zi_up hmm87 hIm83 (zc_95_e (zc_25_1 hc0) b43) zb_26_3 (by omega) (by omega)
                      have hFm87 := zfr_up hmm87 hFm83 (zc_95_e (zc_25_1 hc0) b43) rfl
                      have hRK54m87 := zR_K54_fr (zdis_fr (zfr_up hmm87 (zfr_rf [(26, 4)] _) (zc_95_e (zc_25_1 hc0) b43) rfl) rfl) hRK54m83
                      have r88 : (-2147483648) ≤ (m87 x3 6) ∧ (m87 x3 6) ≤ 2147483647 := zi_rd hIm87 hx3 zb_27_6
                      have e89 : (m87 x3 6) = (m77 x3 6) := (Eq.trans (zs_ne hmm87 (Or.inl (zc_ne hx3 (zc_95_e (zc_25_1 hc0) b43) (by decide)))) (Eq.trans (zfr_ap hfm83 hx3 rfl) (zfr_ap hfm81 hx3 rfl)))
                      have w90 := zu_w32_rg ((m87 x3 6) + 1)
                      generalize hmm91 : zu_up m87 x3 6 (zu_w32 ((m87 x3 6) + 1)) = m91
                      have hIm91 := zi_up hmm91 hIm87 hx3 zb_27_6 (by omega) (by omega)
                      have hFm91 := zfr_up hmm91 hFm87 hx3 rfl
                      have hRK54m91 := zR_K54_fr (zdis_fr (zfr_up hmm91 (zfr_rf [(27, 7)] _) hx3 rfl) rfl) hRK54m87
                      have w92 := zu_w32_id (z := x6 + 1) (by omega) (by omega)
                      have hM : (16 - (zu_w32 (x6 + 1))) * 1 + 0 < (k : Int) := by omega
                      exact zw_le (zu_forget (zu_lr_same (zu_lr_same (zu_lr_same (zu_lr_same (zu_lr_same (zu_lr_same (zu_lr_same (zu_lr_drop (zu_lr_drop zu_lr_nil)))))))))) (ih x3 x4 x5 (zu_w32 (x6 + 1)) m91 hIm91 hFm91 ⟨by omega, by omega⟩ ⟨by omega, by omega⟩ hx3 ⟨by omega, by omega⟩ ⟨by omega, by omega⟩ ⟨by omega, by omega⟩ hRK54m91 hM)
                  · exfalso; omega
      · have r93 : (-2147483648) ≤ (mh x3 7) ∧ (mh x3 7) ≤ 2147483647 := zi_rd hImh hx3 zb_27_7
        refine zw_ite (fun h94 => ?_) (fun h94 => ?_)
        · refine zw_ite (fun h95 => ?_) (fun h95 => ?_)
          · exfalso; omega
          · have r96 : (-2147483648) ≤ (mh x3 6) ∧ (mh x3 6) ≤ 2147483647 := zi_rd hImh hx3 zb_27_6
            refine zw_ite (fun h97 => ?_) (fun h97 => ?_)
            · generalize hmm98 : zu_up mh x3 7 (-1) = m98
              have hIm98 := zi_up hmm98 hImh hx3 zb_27_7 (by omega) (by omega)
              have hFm98 := zfr_up hmm98 hFmh hx3 rfl
              have hRK54m98 := zR_K54_fr (zdis_fr (zfr_up hmm98 (zfr_rf [(27, 8)] _) hx3 rfl) rfl) hRK54mh
              have r99 : (-2147483648) ≤ (m98 x3 5) ∧ (m98 x3 5) ≤ 2147483647 := zi_rd hIm98 hx3 zb_27_5
              have w100 := zu_w32_rg ((m98 x3 5) + 1)
              generalize hmm101 : zu_up m98 x3 5 (zu_w32 ((m98 x3 5) + 1)) = m101
              have hIm101 := zi_up hmm101 hIm98 hx3 zb_27_5 (by omega) (by omega)
              have hFm101 := zfr_up hmm101 hFm98 hx3 rfl
              have hRK54m101 := zR_K54_fr (zdis_fr (zfr_up hmm101 (zfr_rf [(27, 6)] _) hx3 rfl) rfl) hRK54m98
              refine zw_b (by omega) ?_
              have b102 : 0 ≤ x4 ∧ x4 < 48 := by omega
              refine zw_if b102 ?_
              generalize hmm103 : zu_up m101 (a0 + 3) x4 1 = m103
              have hIm103 := zi_up hmm103 hIm101 (zc_25_5 hc0) (zb_97 _) (by omega) (by omega)
              have hFm103 := zfr_up hmm103 hFm101 (zc_25_5 hc0) rfl
              have hRK54m103 := zR_K54_fr (zdis_fr (zfr_up hmm103 (zfr_rf [(97, 0)] _) (zc_25_5 hc0) rfl) rfl) hRK54m101
              have b104 : 0 ≤ x4 ∧ x4 < 48 := by omega
              refine zw_if b104 ?_
              have r105 : 0 ≤ (m103 (a0 + 4) x4) ∧ (m103 (a0 + 4) x4) ≤ 999000 := zi_rd hIm103 (zc_25_6 hc0) (zb_98 _)
              refine zw_bd (zw_mono (zk_254 n hIm103 zq_50 ⟨by omega, by omega⟩ ⟨by omega, by omega⟩ ⟨by omega, by omega⟩) (fun v107 m106 hqm106 => ?_))
              obtain ⟨hIm106, hfm106, hvm106⟩ := hqm106
              have hFm106 := zfr_tr hFm103 hfm106 rfl
              have hRK54m106 := zR_K54_fr (zdis_fr hfm106 rfl) hRK54m103
              have b108 : 0 ≤ x4 ∧ x4 < 48 := by omega
              refine zw_if b108 ?_
              generalize hmm109 : zu_up m106 (a0 + 4) x4 v107 = m109
              have hIm109 := zi_up hmm109 hIm106 (zc_25_6 hc0) (zb_98 _) (by omega) (by omega)
              have hFm109 := zfr_up hmm109 hFm106 (zc_25_6 hc0) rfl
              have hRK54m109 := zR_K54_fr (zdis_fr (zfr_up hmm109 (zfr_rf [(98, 0)] _) (zc_25_6 hc0) rfl) rfl) hRK54m106
              exact zw_some ⟨hIm109, hFm109, hRK54m109, trivial⟩
            · generalize hmm110 : zu_up mh x3 7 x4 = m110
              have hIm110 := zi_up hmm110 hImh hx3 zb_27_7 (by omega) (by omega)
              have hFm110 := zfr_up hmm110 hFmh hx3 rfl
              have hRK54m110 := zR_K54_fr (zdis_fr (zfr_up hmm110 (zfr_rf [(27, 8)] _) hx3 rfl) rfl) hRK54mh
              have r111 : (-2147483648) ≤ (m110 x3 5) ∧ (m110 x3 5) ≤ 2147483647 := zi_rd hIm110 hx3 zb_27_5
              have w112 := zu_w32_rg ((m110 x3 5) + 1)
              generalize hmm113 : zu_up m110 x3 5 (zu_w32 ((m110 x3 5) + 1)) = m113
              have hIm113 := zi_up hmm113 hIm110 hx3 zb_27_5 (by omega) (by omega)
              have hFm113 := zfr_up hmm113 hFm110 hx3 rfl
              have hRK54m113 := zR_K54_fr (zdis_fr (zfr_up hmm113 (zfr_rf [(27, 6)] _) hx3 rfl) rfl) hRK54m110
              refine zw_b (by omega) ?_
              have b114 : 0 ≤ x4 ∧ x4 < 48 := by omega
              refine zw_if b114 ?_
              generalize hmm115 : zu_up m113 (a0 + 3) x4 1 = m115
              have hIm115 := zi_up hmm115 hIm113 (zc_25_5 hc0) (zb_97 _) (by omega) (by omega)
              have hFm115 := zfr_up hmm115 hFm113 (zc_25_5 hc0) rfl
              have hRK54m115 := zR_K54_fr (zdis_fr (zfr_up hmm115 (zfr_rf [(97, 0)] _) (zc_25_5 hc0) rfl) rfl) hRK54m113
              have b116 : 0 ≤ x4 ∧ x4 < 48 := by omega
              refine zw_if b116 ?_
              have r117 : 0 ≤ (m115 (a0 + 4) x4) ∧ (m115 (a0 + 4) x4) ≤ 999000 := zi_rd hIm115 (zc_25_6 hc0) (zb_98 _)
              refine zw_bd (zw_mono (zk_254 n hIm115 zq_50 ⟨by omega, by omega⟩ ⟨by omega, by omega⟩ ⟨by omega, by omega⟩) (fun v119 m118 hqm118 => ?_))
              obtain ⟨hIm118, hfm118, hvm118⟩ := hqm118
              have hFm118 := zfr_tr hFm115 hfm118 rfl
              have hRK54m118 := zR_K54_fr (zdis_fr hfm118 rfl) hRK54m115
              have b120 : 0 ≤ x4 ∧ x4 < 48 := by omega
              refine zw_if b120 ?_
              generalize hmm121 : zu_up m118 (a0 + 4) x4 v119 = m121
              have hIm121 := zi_up hmm121 hIm118 (zc_25_6 hc0) (zb_98 _) (by omega) (by omega)
              have hFm121 := zfr_up hmm121 hFm118 (zc_25_6 hc0) rfl
              have hRK54m121 := zR_K54_fr (zdis_fr (zfr_up hmm121 (zfr_rf [(98, 0)] _) (zc_25_6 hc0) rfl) rfl) hRK54m118
              exact zw_some ⟨hIm121, hFm121, hRK54m121, trivial⟩
        · have b122 : 0 ≤ x6 ∧ x6 < 16 := by omega
          refine zw_if b122 ?_
          have r123 : (-3) ≤ (mh ((a0 + 1) + 5 + x6) 3) ∧ (mh ((a0 + 1) + 5 + x6) 3) ≤ 3 := zi_rd hImh (zc_95_e (zc_25_1 hc0) b122) zb_26_3
          refine zw_ite (fun h124 => ?_) (fun h124 => ?_)
          · have w125 := zu_w32_id (z := x6 + 1) (by omega) (by omega)
            have hM : (16 - (zu_w32 (x6 + 1))) * 1 + 0 < (k : Int) := by omega
            exact zw_le (zu_forget (zu_lr_same (zu_lr_same (zu_lr_same (zu_lr_same (zu_lr_same (zu_lr_same (zu_lr_same (zu_lr_drop (zu_lr_same zu_lr_nil)))))))))) (ih x3 x4 x5 (zu_w32 (x6 + 1)) mh hImh hFmh ⟨by omega, by omega⟩ ⟨by omega, by omega⟩ hx3 ⟨by omega, by omega⟩ ⟨by omega, by omega⟩ ⟨by omega, by omega⟩ hRK54mh hM)
          · have r126 : 0 ≤ (mh ((a0 + 1) + 5 + x6) 0) ∧ (mh ((a0 + 1) + 5 + x6) 0) ≤ 47 := zi_rd hImh (zc_95_e (zc_25_1 hc0) b122) zb_26_0
            refine zw_ite (fun h127 => ?_) (fun h127 => ?_)
            · have w128 := zu_w32_id (z := x6 + 1) (by omega) (by omega)
              have hM : (16 - (zu_w32 (x6 + 1))) * 1 + 0 < (k : Int) := by omega
              exact zw_le (zu_forget (zu_lr_same (zu_lr_same (zu_lr_same (zu_lr_same (zu_lr_same (zu_lr_same (zu_lr_same (zu_lr_drop (zu_lr_same zu_lr_nil)))))))))) (ih x3 x4 x5 (zu_w32 (x6 + 1)) mh hImh hFmh ⟨by omega, by omega⟩ ⟨by omega, by omega⟩ hx3 ⟨by omega, by omega⟩ ⟨by omega, by omega⟩ ⟨by omega, by omega⟩ hRK54mh hM)
            · have r129 : 0 ≤ (mh ((a0 + 1) + 5 + x6) 1) ∧ (mh ((a0 + 1) + 5 + x6) 1) ≤ 3 := zi_rd hImh (zc_95_e (zc_25_1 hc0) b122) zb_26_1
              refine zw_bd (zw_eq (zr_217_0 n a0 a1 (mh ((a0 + 1) + 5 + x6) 1) mh) ?_)
              have r130 : 0 ≤ (mh a0 10) ∧ (mh a0 10) ≤ 3 := zi_rd hImh hc0 zb_25_10
              refine zw_ite (fun h131 => ?_) (fun h131 => ?_)
              · refine zw_b (by omega) ?_
                refine zw_some ?_
                refine zw_ite (fun h132 => ?_) (fun h132 => ?_)
                · exfalso; omega
                · refine zw_ite (fun h133 => ?_) (fun h133 => ?_)
                  · exfalso; omega
                  · have r134 : (-2147483648) ≤ (mh x3 6) ∧ (mh x3 6) ≤ 2147483647 := zi_rd hImh hx3 zb_27_6
                    refine zw_bd (zw_mono (zk_224_25 n hImh hc0 ⟨by omega, by omega⟩ ⟨by omega, by omega⟩ ⟨by omega, by omega⟩) (fun v136 m135 hqm135 => ?_))
                    obtain ⟨hIm135, hfm135, hvm135⟩ := hqm135
                    have hFm135 := zfr_tr hFmh hfm135 rfl
                    have hRK54m135 := zR_K54_fr (zdis_fr hfm135 rfl) hRK54mh
                    refine zw_bd (zw_mono (zk_250 n hIm135 zq_50 hRK54m135) (fun v138 m137 hqm137 => ?_))
                    obtain ⟨hIm137, hfm137, hvm137⟩ := hqm137
                    have hFm137 := zfr_tr hFm135 hfm137 rfl
                    obtain ⟨hRK54m137, hvm137⟩ := hvm137
                    refine zw_ite (fun h139 => ?_) (fun h139 => ?_)
                    · have w140 := zu_w32_id (z := x6 + 1) (by omega) (by omega)
                      have hM : (16 - (zu_w32 (x6 + 1))) * 1 + 0 < (k : Int) := by omega
                      exact zw_le (zu_forget (zu_lr_same (zu_lr_same (zu_lr_same (zu_lr_same (zu_lr_same (zu_lr_same (zu_lr_same (zu_lr_drop (zu_lr_drop zu_lr_nil)))))))))) (ih x3 x4 x5 (zu_w32 (x6 + 1)) m137 hIm137 hFm137 ⟨by omega, by omega⟩ ⟨by omega, by omega⟩ hx3 ⟨by omega, by omega⟩ ⟨by omega, by omega⟩ ⟨by omega, by omega⟩ hRK54m137 hM)
                    · generalize hmm141 : zu_up m137 ((a0 + 1) + 5 + x6) 3 a1 = m141
                      have hIm141 := zi_up hmm141 hIm137 (zc_95_e (zc_25_1 hc0) b122) zb_26_3 (by omega) (by omega)
                      have hFm141 := zfr_up hmm141 hFm137 (zc_95_e (zc_25_1 hc0) b122) rfl
                      have hRK54m141 := zR_K54_fr (zdis_fr (zfr_up hmm141 (zfr_rf [(26, 4)] _) (zc_95_e (zc_25_1 hc0) b122) rfl) rfl) hRK54m137
                      have r142 : (-2147483648) ≤ (m141 x3 6) ∧ (m141 x3 6) ≤ 2147483647 := zi_rd hIm141 hx3 zb_27_6
                      have e143 : (m141 x3 6) = (mh x3 6) := (Eq.trans (zs_ne hmm141 (Or.inl (zc_ne hx3 (zc_95_e (zc_25_1 hc0) b122) (by decide)))) (Eq.trans (zfr_ap hfm137 hx3 rfl) (zfr_ap hfm135 hx3 rfl)))
                      have w144 := zu_w32_rg ((m141 x3 6) + 1)
                      generalize hmm145 : zu_up m141 x3 6 (zu_w32 ((m141 x3 6) + 1)) = m145
                      have hIm145 := zi_up hmm145 hIm141 hx3 zb_27_6 (by omega) (by omega)
                      have hFm145 := zfr_up hmm145 hFm141 hx3 rfl
                      have hRK54m145 := zR_K54_fr (zdis_fr (zfr_up hmm145 (zfr_rf [(27, 7)] _) hx3 rfl) rfl) hRK54m141
                      have w146 := zu_w32_id (z := x6 + 1) (by omega) (by omega)
                      have hM : (16 - (zu_w32 (x6 + 1))) * 1 + 0 < (k : Int) := by omega
                      exact zw_le (zu_forget (zu_lr_same (zu_lr_same (zu_lr_same (zu_lr_same (zu_lr_same (zu_lr_same (zu_lr_same (zu_lr_drop (zu_lr_drop zu_lr_nil)))))))))) (ih x3 x4 x5 (zu_w32 (x6 + 1)) m145 hIm145 hFm145 ⟨by omega, by omega⟩ ⟨by omega, by omega⟩ hx3 ⟨by omega, by omega⟩ ⟨by omega, by omega⟩ ⟨by omega, by omega⟩ hRK54m145 hM)
              · refine zw_nif (by omega) ?_
                have d147 : Int.tmod a1 4 = a1 % 4 := Int.tmod_eq_emod_of_nonneg (by omega)
                refine zw_ite (fun h148 => ?_) (fun h148 => ?_)
                · refine zw_b (by omega) ?_
                  refine zw_some ?_
                  refine zw_ite (fun h149 => ?_) (fun h149 => ?_)
                  · have w150 := zu_w32_id (z := x6 + 1) (by omega) (by omega)
                    have hM : (16 - (zu_w32 (x6 + 1))) * 1 + 0 < (k : Int) := by omega
                    exact zw_le (zu_forget (zu_lr_same (zu_lr_same (zu_lr_same (zu_lr_same (zu_lr_same (zu_lr_same (zu_lr_same (zu_lr_drop (zu_lr_same zu_lr_nil)))))))))) (ih x3 x4 x5 (zu_w32 (x6 + 1)) mh hImh hFmh ⟨by omega, by omega⟩ ⟨by omega, by omega⟩ hx3 ⟨by omega, by omega⟩ ⟨by omega, by omega⟩ ⟨by omega, by omega⟩ hRK54mh hM)
                  · exfalso; omega
                · refine zw_b (by omega) ?_
                  refine zw_some ?_
                  refine zw_ite (fun h151 => ?_) (fun h151 => ?_)
                  · exfalso; omega
                  · refine zw_ite (fun h152 => ?_) (fun h152 => ?_)
                    · exfalso; omega
                    · have r153 : (-2147483648) ≤ (mh x3 6) ∧ (mh x3 6) ≤ 2147483647 := zi_rd hImh hx3 zb_27_6
                      refine zw_bd (zw_mono (zk_224_25 n hImh hc0 ⟨by omega, by omega⟩ ⟨by omega, by omega⟩ ⟨by omega, by omega⟩) (fun v155 m154 hqm154 => ?_))
                      obtain ⟨hIm154, hfm154, hvm154⟩ := hqm154
                      have hFm154 := zfr_tr hFmh hfm154 rfl
                      have hRK54m154 := zR_K54_fr (zdis_fr hfm154 rfl) hRK54mh
                      refine zw_bd (zw_mono (zk_250 n hIm154 zq_50 hRK54m154) (fun v157 m156 hqm156 => ?_))
                      obtain ⟨hIm156, hfm156, hvm156⟩ := hqm156
                      have hFm156 := zfr_tr hFm154 hfm156 rfl
                      obtain ⟨hRK54m156, hvm156⟩ := hvm156
                      refine zw_ite (fun h158 => ?_) (fun h158 => ?_)
                      · have w159 := zu_w32_id (z := x6 + 1) (by omega) (by omega)
                        have hM : (16 - (zu_w32 (x6 + 1))) * 1 + 0 < (k : Int) := by omega
                        exact zw_le (zu_forget (zu_lr_same (zu_lr_same (zu_lr_same (zu_lr_same (zu_lr_same (zu_lr_same (zu_lr_same (zu_lr_drop (zu_lr_drop zu_lr_nil)))))))))) (ih x3 x4 x5 (zu_w32 (x6 + 1)) m156 hIm156 hFm156 ⟨by omega, by omega⟩ ⟨by omega, by omega⟩ hx3 ⟨by omega, by omega⟩ ⟨by omega, by omega⟩ ⟨by omega, by omega⟩ hRK54m156 hM)
                      · generalize hmm160 : zu_up m156 ((a0 + 1) + 5 + x6) 3 a1 = m160
                        have hIm160 := zi_up hmm160 hIm156 (zc_95_e (zc_25_1 hc0) b122) zb_26_3 (by omega) (by omega)
                        have hFm160 := zfr_up hmm160 hFm156 (zc_95_e (zc_25_1 hc0) b122) rfl
                        have hRK54m160 := zR_K54_fr (zdis_fr (zfr_up hmm160 (zfr_rf [(26, 4)] _) (zc_95_e (zc_25_1 hc0) b122) rfl) rfl) hRK54m156
                        have r161 : (-2147483648) ≤ (m160 x3 6) ∧ (m160 x3 6) ≤ 2147483647 := zi_rd hIm160 hx3 zb_27_6
                        have e162 : (m160 x3 6) = (mh x3 6) := (Eq.trans (zs_ne hmm160 (Or.inl (zc_ne hx3 (zc_95_e (zc_25_1 hc0) b122) (by decide)))) (Eq.trans (zfr_ap hfm156 hx3 rfl) (zfr_ap hfm154 hx3 rfl)))
                        have w163 := zu_w32_rg ((m160 x3 6) + 1)
                        generalize hmm164 : zu_up m160 x3 6 (zu_w32 ((m160 x3 6) + 1)) = m164
                        have hIm164 := zi_up hmm164 hIm160 hx3 zb_27_6 (by omega) (by omega)
                        have hFm164 := zfr_up hmm164 hFm160 hx3 rfl
                        have hRK54m164 := zR_K54_fr (zdis_fr (zfr_up hmm164 (zfr_rf [(27, 7)] _) hx3 rfl) rfl) hRK54m160
                        have w165 := zu_w32_id (z := x6 + 1) (by omega) (by omega)
                        have hM : (16 - (zu_w32 (x6 + 1))) * 1 + 0 < (k : Int) := by omega
                        exact zw_le (zu_forget (zu_lr_same (zu_lr_same (zu_lr_same (zu_lr_same (zu_lr_same (zu_lr_same (zu_lr_same (zu_lr_drop (zu_lr_drop zu_lr_nil)))))))))) (ih x3 x4 x5 (zu_w32 (x6 + 1)) m164 hIm164 hFm164 ⟨by omega, by omega⟩ ⟨by omega, by omega⟩ hx3 ⟨by omega, by omega⟩ ⟨by omega, by omega⟩ ⟨by omega, by omega⟩ hRK54m164 hM)
set_option maxHeartbeats 4000000 in
theorem zk_216_25 (n : Nat) {a0 a1 a2 : Int} {m0 : zu_m} (hIm0 : zi_I m0) (hc0 : zcls a0 = 25) (ha1 : 0 ≤ a1 ∧ a1 ≤ 3) (ha2 : 0 ≤ a2 ∧ a2 ≤ 1)    (hRK54m0 : zR_K54 m0) : zw (zu_call (zt_T n) 216 [(27, a0), (0, a1), (0, a2)] m0) (fun v m => zi_I m ∧ zfr [(25, 10), (26, 4), (27, 6), (27, 7), (27, 8), (56, 0), (59, 0), (97, 0), (98, 0)] m0 m ∧ zR_K54 m ∧ True) := by
  have hFm0 : zfr [(25, 10), (26, 4), (27, 6), (27, 7), (27, 8), (56, 0), (59, 0), (97, 0), (98, 0)] m0 m0 := zfr_rf _ _
  refine zw_eq (zr_216_0 n a0 a1 a2 m0) ?_
  have b166 : 0 ≤ a1 ∧ a1 < 4 := by omega
  refine zw_if b166 ?_
  have r167 : 0 ≤ (m0 ((a0 + 2) + 20 + a1) 1) ∧ (m0 ((a0 + 2) + 20 + a1) 1) ≤ 47 := zi_rd hIm0 (zc_96_e (zc_25_3 hc0) b166) zb_27_1
  have r168 : (-2147483648) ≤ (m0 ((a0 + 2) + 20 + a1) 6) ∧ (m0 ((a0 + 2) + 20 + a1) 6) ≤ 2147483647 := zi_rd hIm0 (zc_96_e (zc_25_3 hc0) b166) zb_27_6
  have hM : (16 - 0) * 1 + 0 < ((17 : Nat) : Int) := by omega
  exact (zl_216_25 n (m0 := m0) hc0 17) ((a0 + 2) + 20 + a1) (m0 ((a0 + 2) + 20 + a1) 1) (m0 ((a0 + 2) + 20 + a1) 6) 0 m0 hIm0 hFm0 ⟨by omega, by omega⟩ ⟨by omega, by omega⟩ (zc_96_e (zc_25_3 hc0) b166) ⟨by omega, by omega⟩ ⟨by omega, by omega⟩ ⟨by omega, by omega⟩ hRK54m0 hM
set_option maxHeartbeats 4000000 in
theorem zk_225 (n : Nat) {a0 a1 a2 : Int} {m0 : zu_m} (hIm0 : zi_I m0) (hc0 : zcls a0 = 16) (ha1 : 0 ≤ a1 ∧ a1 ≤ 3) (ha2 : 0 ≤ a2 ∧ a2 ≤ 15)    (hRK54m0 : zR_K54 m0) : zw (zu_call (zt_T n) 225 [(27, a0), (0, a1), (0, a2)] m0) (fun v m => zi_I m ∧ zfr [(56, 0), (59, 0)] m0 m ∧ zR_K54 m ∧ (0 ≤ v ∧ v ≤ 100)) := by
  have hFm0 : zfr [(56, 0), (59, 0)] m0 m0 := zfr_rf _ _
  refine zw_eq (zr_225_0 n a0 a1 a2 m0) ?_
  have b1 : 0 ≤ a1 ∧ a1 < 4 := by omega
  refine zw_if b1 ?_
  have r2 : (-2147483648) ≤ (m0 ((a0 + 2) + 20 + a1) 6) ∧ (m0 ((a0 + 2) + 20 + a1) 6) ≤ 2147483647 := zi_rd hIm0 (zc_66_e (zc_16_3 hc0) b1) zb_18_6
  refine zw_bd (zw_mono (zk_224_16 n hIm0 hc0 ⟨by omega, by omega⟩ ⟨by omega, by omega⟩ ⟨by omega, by omega⟩) (fun v4 m3 hqm3 => ?_))
  obtain ⟨hIm3, hfm3, hvm3⟩ := hqm3
  have hFm3 := zfr_tr hFm0 hfm3 rfl
  have hRK54m3 := zR_K54_fr (zdis_fr hfm3 rfl) hRK54m0
  refine zw_bd (zw_mono (zk_250 n hIm3 zq_50 hRK54m3) (fun v6 m5 hqm5 => ?_))
  obtain ⟨hIm5, hfm5, hvm5⟩ := hqm5
  have hFm5 := zfr_tr hFm3 hfm5 rfl
  obtain ⟨hRK54m5, hvm5⟩ := hvm5
  exact zw_some ⟨hIm5, hFm5, hRK54m5, ⟨by omega, by omega⟩⟩
set_option maxHeartbeats 4000000 in
theorem zk_226 (n : Nat) {a0 a1 a2 : Int} {m0 : zu_m} (hIm0 : zi_I m0) (hc0 : zcls a0 = 16) (ha1 : 0 ≤ a1 ∧ a1 ≤ 3) (ha2 : 0 ≤ a2 ∧ a2 ≤ 15)    (hRK54m0 : zR_K54 m0) : zw (zu_call (zt_T n) 226 [(27, a0), (0, a1), (0, a2)] m0) (fun v m => zi_I m ∧ zfr [(56, 0), (59, 0)] m0 m ∧ zR_K54 m ∧ (0 ≤ v ∧ v ≤ 999)) := by
  have hFm0 : zfr [(56, 0), (59, 0)] m0 m0 := zfr_rf _ _
  refine zw_eq (zr_226_0 n a0 a1 a2 m0) ?_
  refine zw_bd (zw_mono (zk_224_16 n hIm0 hc0 ⟨by omega, by omega⟩ ⟨by omega, by omega⟩ ⟨by omega, by omega⟩) (fun v2 m1 hqm1 => ?_))
  obtain ⟨hIm1, hfm1, hvm1⟩ := hqm1
  have hFm1 := zfr_tr hFm0 hfm1 rfl
  have hRK54m1 := zR_K54_fr (zdis_fr hfm1 rfl) hRK54m0
  refine zw_bd (zw_mono (zk_251 n hIm1 zq_50 hRK54m1) (fun v4 m3 hqm3 => ?_))
  obtain ⟨hIm3, hfm3, hvm3⟩ := hqm3
  have hFm3 := zfr_tr hFm1 hfm3 rfl
  obtain ⟨hRK54m3, hvm3⟩ := hvm3
  exact zw_some ⟨hIm3, hFm3, hRK54m3, ⟨by omega, by omega⟩⟩
set_option maxHeartbeats 4000000 in
theorem zk_227 (n : Nat) {a0 a1 a2 a3 : Int} {m0 : zu_m} (hIm0 : zi_I m0) (hc0 : zcls a0 = 16) (ha1 : 0 ≤ a1 ∧ a1 ≤ 2) (ha2 : (-2147483648) ≤ a2 ∧ a2 ≤ 2147483647) (ha3 : (-2147483648) ≤ a3 ∧ a3 ≤ 2147483647)    (hRK54m0 : zR_K54 m0) : zw (zu_call (zt_T n) 227 [(27, a0), (0, a1), (0, a2), (0, a3)] m0) (fun v m => zi_I m ∧ zfr [(56, 0), (59, 0)] m0 m ∧ zR_K54 m ∧ ((-9223372036854775808) ≤ v ∧ v ≤ 9223372036854775807)) := by
  have hFm0 : zfr [(56, 0), (59, 0)] m0 m0 := zfr_rf _ _
  refine zw_eq (zr_227_0 n a0 a1 a2 a3 m0) ?_
  refine zw_bd (zw_eq (zr_211_0 n a0 a2 m0) ?_)
  refine zw_ite (fun h1 => ?_) (fun h1 => ?_)
  · refine zw_b (by omega) ?_
    refine zw_some ?_
    refine zw_ite (fun h2 => ?_) (fun h2 => ?_)
    · exact zw_some ⟨hIm0, hFm0, hRK54m0, ⟨by omega, by omega⟩⟩
    · exfalso; omega
  · have r3 : 0 ≤ (m0 a0 4) ∧ (m0 a0 4) ≤ 4 := zi_rd hIm0 hc0 zb_16_4
    refine zw_ite (fun h4 => ?_) (fun h4 => ?_)
    · refine zw_b (by omega) ?_
      refine zw_some ?_
      refine zw_ite (fun h5 => ?_) (fun h5 => ?_)
      · exact zw_some ⟨hIm0, hFm0, hRK54m0, ⟨by omega, by omega⟩⟩
      · exfalso; omega
    · refine zw_b (by omega) ?_
      refine zw_some ?_
      refine zw_ite (fun h6 => ?_) (fun h6 => ?_)
      · exfalso; omega
      · refine zw_bd (zw_eq (zr_210_0 n a0 a3 m0) ?_)
        refine zw_ite (fun h7 => ?_) (fun h7 => ?_)
        · refine zw_b (by omega) ?_
          refine zw_some ?_
          refine zw_ite (fun h8 => ?_) (fun h8 => ?_)
          · exfalso; omega
          · exact zw_some ⟨hIm0, hFm0, hRK54m0, ⟨by omega, by omega⟩⟩
        · have r9 : 0 ≤ (m0 a0 2) ∧ (m0 a0 2) ≤ 16 := zi_rd hIm0 hc0 zb_16_2
          refine zw_ite (fun h10 => ?_) (fun h10 => ?_)
          · refine zw_b (by omega) ?_
            refine zw_some ?_
            refine zw_ite (fun h11 => ?_) (fun h11 => ?_)
            · exfalso; omega
            · exact zw_some ⟨hIm0, hFm0, hRK54m0, ⟨by omega, by omega⟩⟩
          · refine zw_b (by omega) ?_
            refine zw_some ?_
            refine zw_ite (fun h12 => ?_) (fun h12 => ?_)
            · have b13 : 0 ≤ a2 ∧ a2 < 4 := by omega
              refine zw_if b13 ?_
              have r14 : (-2147483648) ≤ (m0 ((a0 + 2) + 20 + a2) 6) ∧ (m0 ((a0 + 2) + 20 + a2) 6) ≤ 2147483647 := zi_rd hIm0 (zc_66_e (zc_16_3 hc0) b13) zb_18_6
              refine zw_bd (zw_mono (zk_224_16 n hIm0 hc0 ⟨by omega, by omega⟩ ⟨by omega, by omega⟩ ⟨by omega, by omega⟩) (fun v16 m15 hqm15 => ?_))
              obtain ⟨hIm15, hfm15, hvm15⟩ := hqm15
              have hFm15 := zfr_tr hFm0 hfm15 rfl
              have hRK54m15 := zR_K54_fr (zdis_fr hfm15 rfl) hRK54m0
              refine zw_bd (zw_eq (zr_249_0 n 50 a1 m15) ?_)
              refine zw_bd (zw_mono (zk_26 n hIm15 (zc_11_9 zq_50) (zc_11_12 zq_50) ⟨by omega, by omega⟩ hRK54m15) (fun v18 m17 hqm17 => ?_))
              obtain ⟨hIm17, hfm17, hvm17⟩ := hqm17
              have hFm17 := zfr_tr hFm15 hfm17 rfl
              obtain ⟨hRK54m17, hvm17⟩ := hvm17
              refine zw_some ?_
              exact zw_some ⟨hIm17, hFm17, hRK54m17, ⟨by omega, by omega⟩⟩
            · exfalso; omega
set_option maxHeartbeats 4000000 in
theorem zk_229 (n : Nat) {a0 a1 : Int} {m0 : zu_m} (hIm0 : zi_I m0) (hc0 : zcls a0 = 16) (ha1 : 0 ≤ a1 ∧ a1 ≤ 15)    (hRK54m0 : zR_K54 m0) : zw (zu_call (zt_T n) 229 [(27, a0), (0, a1)] m0) (fun v m => zi_I m ∧ zfr [(56, 0), (59, 0)] m0 m ∧ zR_K54 m ∧ ((-9223372036854775808) ≤ v ∧ v ≤ 9223372036854775807)) := by
  have hFm0 : zfr [(56, 0), (59, 0)] m0 m0 := zfr_rf _ _
  refine zw_eq (zr_229_0 n a0 a1 m0) ?_
  refine zw_bd (zw_mono (zk_228 n hIm0 hc0 ⟨by omega, by omega⟩) (fun v2 m1 hqm1 => ?_))
  obtain ⟨hIm1, hfm1, hvm1⟩ := hqm1
  have hFm1 := zfr_tr hFm0 hfm1 rfl
  have hRK54m1 := zR_K54_fr (zdis_fr hfm1 rfl) hRK54m0
  refine zw_bd (zw_eq (zr_249_0 n 50 3 m1) ?_)
  refine zw_bd (zw_mono (zk_26 n hIm1 (zc_11_9 zq_50) (zc_11_12 zq_50) ⟨by omega, by omega⟩ hRK54m1) (fun v4 m3 hqm3 => ?_))
  obtain ⟨hIm3, hfm3, hvm3⟩ := hqm3
  have hFm3 := zfr_tr hFm1 hfm3 rfl
  obtain ⟨hRK54m3, hvm3⟩ := hvm3
  refine zw_some ?_
  exact zw_some ⟨hIm3, hFm3, hRK54m3, ⟨by omega, by omega⟩⟩
set_option maxHeartbeats 4000000 in
theorem zl_230 (n : Nat) {a0 : Int} {m0 : zu_m} (hc0 : zcls a0 = 16)  : ∀ k : Nat, (∀ (x1 x2 : Int) (mh : zu_m), zi_I mh → zfr [(56, 0), (59, 0)] m0 mh → ((-2147483648) ≤ x1 ∧ x1 ≤ 2147483647) → (0 ≤ x2 ∧ x2 ≤ 16) → (zR_K54 mh) → (16 - x2) * 1 + 0 < (k : Int) → zw (zu_ex (zt_T n) 230 4 [(27, a0), (0, x1), (0, x2)] [] mh) (fun v m => zi_I m ∧ zfr [(56, 0), (59, 0)] m0 m ∧ zR_K54 m ∧ ((-2147483648) ≤ v ∧ v ≤ 2147483647))) := by
  intro k
  induction k with
  | zero => exact fun x1 x2 mh hImh hFmh hbx1 hbx2 hRK54mh hM => by exfalso; omega
  | succ k ih =>
    intro x1 x2 mh hImh hFmh hbx1 hbx2 hRK54mh hM
    refine zw_eq (zr_230_4 n a0 x1 x2 mh) ?_
    have r1 : 0 ≤ (mh a0 2) ∧ (mh a0 2) ≤ 16 := zi_rd hImh hc0 zb_16_2
    refine zw_ite (fun h2 => ?_) (fun h2 => ?_)
    · exact zw_some ⟨hImh, hFmh, hRK54mh, ⟨by omega, by omega⟩⟩
    · have b3 : 0 ≤ x2 ∧ x2 < 16 := by omega
      refine zw_if b3 ?_
      have r4 : (-3) ≤ (mh ((a0 + 1) + 5 + x2) 3) ∧ (mh ((a0 + 1) + 5 + x2) 3) ≤ 3 := zi_rd hImh (zc_65_e (zc_16_1 hc0) b3) zb_17_3
      refine zw_ite (fun h5 => ?_) (fun h5 => ?_)
      · have w6 := zu_w32_id (z := x2 + 1) (by omega) (by omega)
        have hM : (16 - (zu_w32 (x2 + 1))) * 1 + 0 < (k : Int) := by omega
        exact ih x1 (zu_w32 (x2 + 1)) mh hImh hFmh ⟨by omega, by omega⟩ ⟨by omega, by omega⟩ hRK54mh hM
      · refine zw_bd (zw_mono (zk_228 n hImh hc0 ⟨by omega, by omega⟩) (fun v8 m7 hqm7 => ?_))
        obtain ⟨hIm7, hfm7, hvm7⟩ := hqm7
        have hFm7 := zfr_tr hFmh hfm7 rfl
        have hRK54m7 := zR_K54_fr (zdis_fr hfm7 rfl) hRK54mh
        refine zw_bd (zw_mono (zk_252 n hIm7 zq_50 hRK54m7) (fun v10 m9 hqm9 => ?_))
        obtain ⟨hIm9, hfm9, hvm9⟩ := hqm9
        have hFm9 := zfr_tr hFm7 hfm9 rfl
        obtain ⟨hRK54m9, hvm9⟩ := hvm9
        have w11 := zu_w32_id (z := 100 - v10) (by omega) (by omega)
        have w12 := zu_w32_rg (x1 + (zu_w32 (100 - v10)))
        have w13 := zu_w32_id (z := x2 + 1) (by omega) (by omega)
        have hM : (16 - (zu_w32 (x2 + 1))) * 1 + 0 < (k : Int) := by omega
        exact ih (zu_w32 (x1 + (zu_w32 (100 - v10)))) (zu_w32 (x2 + 1)) m9 hIm9 hFm9 ⟨by omega, by omega⟩ ⟨by omega, by omega⟩ hRK54m9 hM
set_option maxHeartbeats 4000000 in
theorem zk_230 (n : Nat) {a0 : Int} {m0 : zu_m} (hIm0 : zi_I m0) (hc0 : zcls a0 = 16)     (hRK54m0 : zR_K54 m0) : zw (zu_call (zt_T n) 230 [(27, a0)] m0) (fun v m => zi_I m ∧ zfr [(56, 0), (59, 0)] m0 m ∧ zR_K54 m ∧ ((-2147483648) ≤ v ∧ v ≤ 2147483647)) := by
  have hFm0 : zfr [(56, 0), (59, 0)] m0 m0 := zfr_rf _ _
  refine zw_eq (zr_230_0 n a0 m0) ?_
  have hM : (16 - 0) * 1 + 0 < ((17 : Nat) : Int) := by omega
  exact (zl_230 n (m0 := m0) hc0 17) 0 0 m0 hIm0 hFm0 ⟨by omega, by omega⟩ ⟨by omega, by omega⟩ hRK54m0 hM
set_option maxHeartbeats 4000000 in
theorem zk_264 (n : Nat) {a0 : Int} {m0 : zu_m} (hIm0 : zi_I m0) (hc0 : zcls a0 = 3)      : zw (zu_call (zt_T n) 264 [(7, a0)] m0) (fun v m => zi_I m ∧ zfr [(3, 5), (3, 8), (3, 10), (3, 11), (4, 1), (4, 2), (4, 3), (9, 4), (9, 5), (9, 6), (9, 7), (30, 0), (31, 0)] m0 m ∧ (0 ≤ v ∧ v ≤ 1)) := by
  have hFm0 : zfr [(3, 5), (3, 8), (3, 10), (3, 11), (4, 1), (4, 2), (4, 3), (9, 4), (9, 5), (9, 6), (9, 7), (30, 0), (31, 0)] m0 m0 := zfr_rf _ _
  refine zw_eq (zr_264_0 n a0 m0) ?_
  refine zw_bd (zw_eq (zr_263_0 n a0 0 m0) ?_)
  have r1 : (-2147483648) ≤ (m0 a0 4) ∧ (m0 a0 4) ≤ 2147483647 := zi_rd hIm0 hc0 zb_3_4
  have b2 := zu_i32_rg 6 (m0 a0 4) 0
  have b3 := zu_i32_rg 3 (zu_i32 6 (m0 a0 4) 0) 1
  refine zw_ite (fun h4 => ?_) (fun h4 => ?_)
  · have b5 := zu_i32_rg 5 1 0
    have b6 := zu_i32_rg 4 (m0 a0 4) (zu_i32 5 1 0)
    generalize hmm7 : zu_up m0 a0 4 (zu_i32 4 (m0 a0 4) (zu_i32 5 1 0)) = m7
    have hIm7 := zi_up hmm7 hIm0 hc0 zb_3_4 (by omega) (by omega)
    have hFm7 := zfr_up hmm7 hFm0 hc0 rfl
    refine zw_b (by omega) ?_
    refine zw_some ?_
    refine zw_ite (fun h8 => ?_) (fun h8 => ?_)
    · have r9 : 0 ≤ (m7 a0 6) ∧ (m7 a0 6) ≤ 1 := zi_rd hIm7 hc0 zb_3_6
      refine zw_ite (fun h10 => ?_) (fun h10 => ?_)
      · refine zw_bd (zw_eq (zr_260_0 n a0 1 8 m7) ?_)
        refine zw_bd (zw_mono (zk_18 n hIm7 zq_45) (fun v12 m11 hqm11 => ?_))
        obtain ⟨hIm11, hfm11, hvm11⟩ := hqm11
        have hFm11 := zfr_tr hFm7 hfm11 rfl
        have r13 : 0 ≤ (m11 45 4) ∧ (m11 45 4) ≤ 5 := zi_rd hIm11 zq_45 zb_9_4
        refine zw_ite (fun h14 => ?_) (fun h14 => ?_)
        · have r15 : (-2147483648) ≤ (m11 45 5) ∧ (m11 45 5) ≤ 2147483647 := zi_rd hIm11 zq_45 zb_9_5
          generalize hmm16 : zu_up m11 a0 7 (m11 45 5) = m16
          have hIm16 := zi_up hmm16 hIm11 hc0 zb_3_7 (by omega) (by omega)
          have hFm16 := zfr_up hmm16 hFm11 hc0 rfl
          have r17 : (-2147483648) ≤ (m16 a0 7) ∧ (m16 a0 7) ≤ 2147483647 := zi_rd hIm16 hc0 zb_3_7
          have e18 : (m16 a0 7) = (m11 45 5) := (zs_eq hmm16)
          refine zw_ite (fun h19 => ?_) (fun h19 => ?_)
          · refine zw_bd (zw_eq (zr_257_0 n a0 2 m16) ?_)
            generalize hmm20 : zu_up m16 a0 9 2 = m20
            have hIm20 := zi_up hmm20 hIm16 hc0 zb_3_9 (by omega) (by omega)
            have hFm20 := zfr_up hmm20 hFm16 hc0 rfl
            have r21 : 0 ≤ (m20 45 6) ∧ (m20 45 6) ≤ 700 := zi_rd hIm20 zq_45 zb_9_6
            generalize hmm22 : zu_up m20 a0 10 (m20 45 6) = m22
            have hIm22 := zi_up hmm22 hIm20 hc0 zb_3_10 (by omega) (by omega)
            have hFm22 := zfr_up hmm22 hFm20 hc0 rfl
            refine zw_b (by omega) ?_
            refine zw_some ?_
            refine zw_ite (fun h23 => ?_) (fun h23 => ?_)
            · refine zw_b (by omega) ?_
              refine zw_some ?_
              refine zw_ite (fun h24 => ?_) (fun h24 => ?_)
              · exfalso; omega
              · refine zw_b (by omega) ?_
                exact zw_some ⟨hIm22, hFm22, ⟨by omega, by omega⟩⟩
            · exfalso; omega
          · refine zw_ite (fun h25 => ?_) (fun h25 => ?_)
            · refine zw_b (by omega) ?_
              refine zw_some ?_
              refine zw_ite (fun h26 => ?_) (fun h26 => ?_)
              · refine zw_bd (zw_eq (zr_260_0 n a0 1 6 m16) ?_)
                refine zw_bd (zw_mono (zk_18 n hIm16 zq_45) (fun v28 m27 hqm27 => ?_))
                obtain ⟨hIm27, hfm27, hvm27⟩ := hqm27
                have hFm27 := zfr_tr hFm16 hfm27 rfl
                have r29 : 0 ≤ (m27 45 4) ∧ (m27 45 4) ≤ 5 := zi_rd hIm27 zq_45 zb_9_4
                refine zw_ite (fun h30 => ?_) (fun h30 => ?_)
                · have r31 : (-2147483648) ≤ (m27 45 5) ∧ (m27 45 5) ≤ 2147483647 := zi_rd hIm27 zq_45 zb_9_5
                  generalize hmm32 : zu_up m27 a0 7 (m27 45 5) = m32
                  have hIm32 := zi_up hmm32 hIm27 hc0 zb_3_7 (by omega) (by omega)
                  have hFm32 := zfr_up hmm32 hFm27 hc0 rfl
                  have r33 : (-2147483648) ≤ (m32 a0 7) ∧ (m32 a0 7) ≤ 2147483647 := zi_rd hIm32 hc0 zb_3_7
                  have e34 : (m32 a0 7) = (m27 45 5) := (zs_eq hmm32)
                  refine zw_ite (fun h35 => ?_) (fun h35 => ?_)
                  · refine zw_bd (zw_eq (zr_257_0 n a0 2 m32) ?_)
                    generalize hmm36 : zu_up m32 a0 9 2 = m36
                    have hIm36 := zi_up hmm36 hIm32 hc0 zb_3_9 (by omega) (by omega)
                    have hFm36 := zfr_up hmm36 hFm32 hc0 rfl
                    have r37 : 0 ≤ (m36 45 6) ∧ (m36 45 6) ≤ 700 := zi_rd hIm36 zq_45 zb_9_6
                    generalize hmm38 : zu_up m36 a0 10 (m36 45 6) = m38
                    have hIm38 := zi_up hmm38 hIm36 hc0 zb_3_10 (by omega) (by omega)
                    have hFm38 := zfr_up hmm38 hFm36 hc0 rfl
                    refine zw_b (by omega) ?_
                    refine zw_some ?_
                    refine zw_ite (fun h39 => ?_) (fun h39 => ?_)
                    · refine zw_b (by omega) ?_
                      refine zw_some ?_
                      refine zw_ite (fun h40 => ?_) (fun h40 => ?_)
                      · exfalso; omega
                      · refine zw_b (by omega) ?_
                        exact zw_some ⟨hIm38, hFm38, ⟨by omega, by omega⟩⟩
                    · exfalso; omega
                  · refine zw_ite (fun h41 => ?_) (fun h41 => ?_)
                    · refine zw_b (by omega) ?_
                      refine zw_some ?_
                      refine zw_ite (fun h42 => ?_) (fun h42 => ?_)
                      · refine zw_bd (zw_mono (zk_15_4 n hIm32 zq_6 ⟨by omega, by omega⟩ ⟨by omega, by omega⟩) (fun v44 m43 hqm43 => ?_))
                        obtain ⟨hIm43, hfm43, hvm43⟩ := hqm43
                        have hFm43 := zfr_tr hFm32 hfm43 rfl
                        refine zw_b (by omega) ?_
                        exact zw_some ⟨hIm43, hFm43, ⟨by omega, by omega⟩⟩
                      · exfalso; omega
                    · refine zw_bd (zw_eq (zr_257_0 n a0 2 m32) ?_)
                      generalize hmm45 : zu_up m32 a0 9 2 = m45
                      have hIm45 := zi_up hmm45 hIm32 hc0 zb_3_9 (by omega) (by omega)
                      have hFm45 := zfr_up hmm45 hFm32 hc0 rfl
                      have r46 : 0 ≤ (m45 45 6) ∧ (m45 45 6) ≤ 700 := zi_rd hIm45 zq_45 zb_9_6
                      generalize hmm47 : zu_up m45 a0 10 (m45 45 6) = m47
                      have hIm47 := zi_up hmm47 hIm45 hc0 zb_3_10 (by omega) (by omega)
                      have hFm47 := zfr_up hmm47 hFm45 hc0 rfl
                      refine zw_b (by omega) ?_
                      refine zw_some ?_
                      refine zw_ite (fun h48 => ?_) (fun h48 => ?_)
                      · refine zw_b (by omega) ?_
                        refine zw_some ?_
                        refine zw_ite (fun h49 => ?_) (fun h49 => ?_)
                        · exfalso; omega
                        · refine zw_b (by omega) ?_
                          exact zw_some ⟨hIm47, hFm47, ⟨by omega, by omega⟩⟩
                      · exfalso; omega
                · refine zw_bd (zw_eq (zr_257_0 n a0 1 m27) ?_)
                  generalize hmm50 : zu_up m27 a0 9 1 = m50
                  have hIm50 := zi_up hmm50 hIm27 hc0 zb_3_9 (by omega) (by omega)
                  have hFm50 := zfr_up hmm50 hFm27 hc0 rfl
                  have r51 : 0 ≤ (m50 45 6) ∧ (m50 45 6) ≤ 700 := zi_rd hIm50 zq_45 zb_9_6
                  generalize hmm52 : zu_up m50 a0 10 (m50 45 6) = m52
                  have hIm52 := zi_up hmm52 hIm50 hc0 zb_3_10 (by omega) (by omega)
                  have hFm52 := zfr_up hmm52 hFm50 hc0 rfl
                  refine zw_b (by omega) ?_
                  refine zw_some ?_
                  refine zw_b (by omega) ?_
                  refine zw_some ?_
                  refine zw_ite (fun h53 => ?_) (fun h53 => ?_)
                  · exfalso; omega
                  · refine zw_b (by omega) ?_
                    exact zw_some ⟨hIm52, hFm52, ⟨by omega, by omega⟩⟩
              · exfalso; omega
            · refine zw_bd (zw_eq (zr_257_0 n a0 2 m16) ?_)
              generalize hmm54 : zu_up m16 a0 9 2 = m54
              have hIm54 := zi_up hmm54 hIm16 hc0 zb_3_9 (by omega) (by omega)
              have hFm54 := zfr_up hmm54 hFm16 hc0 rfl
              have r55 : 0 ≤ (m54 45 6) ∧ (m54 45 6) ≤ 700 := zi_rd hIm54 zq_45 zb_9_6
              generalize hmm56 : zu_up m54 a0 10 (m54 45 6) = m56
              have hIm56 := zi_up hmm56 hIm54 hc0 zb_3_10 (by omega) (by omega)
              have hFm56 := zfr_up hmm56 hFm54 hc0 rfl
              refine zw_b (by omega) ?_
              refine zw_some ?_
              refine zw_ite (fun h57 => ?_) (fun h57 => ?_)
              · refine zw_b (by omega) ?_
                refine zw_some ?_
                refine zw_ite (fun h58 => ?_) (fun h58 => ?_)
                · exfalso; omega
                · refine zw_b (by omega) ?_
                  exact zw_some ⟨hIm56, hFm56, ⟨by omega, by omega⟩⟩
              · exfalso; omega
        · refine zw_bd (zw_eq (zr_257_0 n a0 1 m11) ?_)
          generalize hmm59 : zu_up m11 a0 9 1 = m59
          have hIm59 := zi_up hmm59 hIm11 hc0 zb_3_9 (by omega) (by omega)
          have hFm59 := zfr_up hmm59 hFm11 hc0 rfl
          have r60 : 0 ≤ (m59 45 6) ∧ (m59 45 6) ≤ 700 := zi_rd hIm59 zq_45 zb_9_6
          generalize hmm61 : zu_up m59 a0 10 (m59 45 6) = m61
          have hIm61 := zi_up hmm61 hIm59 hc0 zb_3_10 (by omega) (by omega)
          have hFm61 := zfr_up hmm61 hFm59 hc0 rfl
          refine zw_b (by omega) ?_
          refine zw_some ?_
          refine zw_b (by omega) ?_
          refine zw_some ?_
          refine zw_ite (fun h62 => ?_) (fun h62 => ?_)
          · exfalso; omega
          · refine zw_b (by omega) ?_
            exact zw_some ⟨hIm61, hFm61, ⟨by omega, by omega⟩⟩
      · refine zw_bd (zw_eq (zr_257_0 n a0 4 m7) ?_)
        generalize hmm63 : zu_up m7 a0 9 4 = m63
        have hIm63 := zi_up hmm63 hIm7 hc0 zb_3_9 (by omega) (by omega)
        have hFm63 := zfr_up hmm63 hFm7 hc0 rfl
        have r64 : 0 ≤ (m63 45 6) ∧ (m63 45 6) ≤ 700 := zi_rd hIm63 zq_45 zb_9_6
        generalize hmm65 : zu_up m63 a0 10 (m63 45 6) = m65
        have hIm65 := zi_up hmm65 hIm63 hc0 zb_3_10 (by omega) (by omega)
        have hFm65 := zfr_up hmm65 hFm63 hc0 rfl
        refine zw_b (by omega) ?_
        refine zw_some ?_
        refine zw_b (by omega) ?_
        exact zw_some ⟨hIm65, hFm65, ⟨by omega, by omega⟩⟩
    · exfalso; omega
  · refine zw_bd (zw_eq (zr_257_0 n a0 3 m0) ?_)
    generalize hmm66 : zu_up m0 a0 9 3 = m66
    have hIm66 := zi_up hmm66 hIm0 hc0 zb_3_9 (by omega) (by omega)
    have hFm66 := zfr_up hmm66 hFm0 hc0 rfl
    have r67 : 0 ≤ (m66 45 6) ∧ (m66 45 6) ≤ 700 := zi_rd hIm66 zq_45 zb_9_6
    generalize hmm68 : zu_up m66 a0 10 (m66 45 6) = m68
    have hIm68 := zi_up hmm68 hIm66 hc0 zb_3_10 (by omega) (by omega)
    have hFm68 := zfr_up hmm68 hFm66 hc0 rfl
    refine zw_b (by omega) ?_
    refine zw_some ?_
    refine zw_b (by omega) ?_
    refine zw_some ?_
    refine zw_ite (fun h69 => ?_) (fun h69 => ?_)
    · exfalso; omega
    · refine zw_b (by omega) ?_
      exact zw_some ⟨hIm68, hFm68, ⟨by omega, by omega⟩⟩
set_option maxHeartbeats 4000000 in
theorem zk_268 (n : Nat) {a0 : Int} {m0 : zu_m} (hIm0 : zi_I m0) (hc0 : zcls a0 = 3)   (he0 : 4 ≤ m0 45 5 ∧ m0 45 5 ≤ 10)   : zw (zu_call (zt_T n) 268 [(7, a0)] m0) (fun v m => zi_I m ∧ zfr [(3, 5), (3, 8), (3, 10), (3, 11), (4, 4), (4, 5), (4, 6), (6, 11), (6, 12), (9, 4), (9, 5), (9, 6), (9, 7)] m0 m ∧ (0 ≤ v ∧ v ≤ 1)) := by
  have hFm0 : zfr [(3, 5), (3, 8), (3, 10), (3, 11), (4, 4), (4, 5), (4, 6), (6, 11), (6, 12), (9, 4), (9, 5), (9, 6), (9, 7)] m0 m0 := zfr_rf _ _
  refine zw_eq (zr_268_0 n a0 m0) ?_
  refine zw_bd (zw_eq (zr_263_0 n a0 (m0 45 5) m0) ?_)
  have r1 : (-2147483648) ≤ (m0 a0 4) ∧ (m0 a0 4) ≤ 2147483647 := zi_rd hIm0 hc0 zb_3_4
  have b2 := zu_i32_rg 6 (m0 a0 4) (m0 45 5)
  have b3 := zu_i32_rg 3 (zu_i32 6 (m0 a0 4) (m0 45 5)) 1
  refine zw_ite (fun h4 => ?_) (fun h4 => ?_)
  · have b5 := zu_i32_rg 5 1 (m0 45 5)
    have b6 := zu_i32_rg 4 (m0 a0 4) (zu_i32 5 1 (m0 45 5))
    generalize hmm7 : zu_up m0 a0 4 (zu_i32 4 (m0 a0 4) (zu_i32 5 1 (m0 45 5))) = m7
    have hIm7 := zi_up hmm7 hIm0 hc0 zb_3_4 (by omega) (by omega)
    have hFm7 := zfr_up hmm7 hFm0 hc0 rfl
    refine zw_b (by omega) ?_
    refine zw_some ?_
    refine zw_ite (fun h8 => ?_) (fun h8 => ?_)
    · refine zw_ite (fun h9 => ?_) (fun h9 => ?_)
      · refine zw_bd (zw_eq (zr_261_0 n a0 16 3 m7) ?_)
        refine zw_bd (zw_mono (zk_18 n hIm7 zq_45) (fun v11 m10 hqm10 => ?_))
        obtain ⟨hIm10, hfm10, hvm10⟩ := hqm10
        have hFm10 := zfr_tr hFm7 hfm10 rfl
        refine zw_bd (zw_eq (zr_279_0 n 45 16 3 m10) ?_)
        have r12 : 0 ≤ (m10 45 4) ∧ (m10 45 4) ≤ 5 := zi_rd hIm10 zq_45 zb_9_4
        refine zw_ite (fun h13 => ?_) (fun h13 => ?_)
        · refine zw_b (by omega) ?_
          refine zw_some ?_
          refine zw_ite (fun h14 => ?_) (fun h14 => ?_)
          · exfalso; omega
          · refine zw_bd (zw_eq (zr_257_0 n a0 1 m10) ?_)
            generalize hmm15 : zu_up m10 a0 9 1 = m15
            have hIm15 := zi_up hmm15 hIm10 hc0 zb_3_9 (by omega) (by omega)
            have hFm15 := zfr_up hmm15 hFm10 hc0 rfl
            have r16 : 0 ≤ (m15 45 6) ∧ (m15 45 6) ≤ 700 := zi_rd hIm15 zq_45 zb_9_6
            generalize hmm17 : zu_up m15 a0 10 (m15 45 6) = m17
            have hIm17 := zi_up hmm17 hIm15 hc0 zb_3_10 (by omega) (by omega)
            have hFm17 := zfr_up hmm17 hFm15 hc0 rfl
            refine zw_b (by omega) ?_
            refine zw_some ?_
            refine zw_b (by omega) ?_
            refine zw_some ?_
            refine zw_ite (fun h18 => ?_) (fun h18 => ?_)
            · refine zw_b (by omega) ?_
              exact zw_some ⟨hIm17, hFm17, ⟨by omega, by omega⟩⟩
            · exfalso; omega
        · have r19 : (-2147483648) ≤ (m10 45 5) ∧ (m10 45 5) ≤ 2147483647 := zi_rd hIm10 zq_45 zb_9_5
          refine zw_ite (fun h20 => ?_) (fun h20 => ?_)
          · refine zw_b (by omega) ?_
            refine zw_some ?_
            refine zw_ite (fun h21 => ?_) (fun h21 => ?_)
            · exfalso; omega
            · refine zw_bd (zw_eq (zr_257_0 n a0 1 m10) ?_)
              generalize hmm22 : zu_up m10 a0 9 1 = m22
              have hIm22 := zi_up hmm22 hIm10 hc0 zb_3_9 (by omega) (by omega)
              have hFm22 := zfr_up hmm22 hFm10 hc0 rfl
              have r23 : 0 ≤ (m22 45 6) ∧ (m22 45 6) ≤ 700 := zi_rd hIm22 zq_45 zb_9_6
              generalize hmm24 : zu_up m22 a0 10 (m22 45 6) = m24
              have hIm24 := zi_up hmm24 hIm22 hc0 zb_3_10 (by omega) (by omega)
              have hFm24 := zfr_up hmm24 hFm22 hc0 rfl
              refine zw_b (by omega) ?_
              refine zw_some ?_
              refine zw_b (by omega) ?_
              refine zw_some ?_
              refine zw_ite (fun h25 => ?_) (fun h25 => ?_)
              · refine zw_b (by omega) ?_
                exact zw_some ⟨hIm24, hFm24, ⟨by omega, by omega⟩⟩
              · exfalso; omega
          · have w26 := zu_w32_id (z := 16 + 3) (by omega) (by omega)
            refine zw_ite (fun h27 => ?_) (fun h27 => ?_)
            · refine zw_b (by omega) ?_
              refine zw_some ?_
              refine zw_ite (fun h28 => ?_) (fun h28 => ?_)
              · exfalso; omega
              · refine zw_bd (zw_eq (zr_257_0 n a0 1 m10) ?_)
                generalize hmm29 : zu_up m10 a0 9 1 = m29
                have hIm29 := zi_up hmm29 hIm10 hc0 zb_3_9 (by omega) (by omega)
                have hFm29 := zfr_up hmm29 hFm10 hc0 rfl
                have r30 : 0 ≤ (m29 45 6) ∧ (m29 45 6) ≤ 700 := zi_rd hIm29 zq_45 zb_9_6
                generalize hmm31 : zu_up m29 a0 10 (m29 45 6) = m31
                have hIm31 := zi_up hmm31 hIm29 hc0 zb_3_10 (by omega) (by omega)
                have hFm31 := zfr_up hmm31 hFm29 hc0 rfl
                refine zw_b (by omega) ?_
                refine zw_some ?_
                refine zw_b (by omega) ?_
                refine zw_some ?_
                refine zw_ite (fun h32 => ?_) (fun h32 => ?_)
                · refine zw_b (by omega) ?_
                  exact zw_some ⟨hIm31, hFm31, ⟨by omega, by omega⟩⟩
                · exfalso; omega
            · refine zw_b (by omega) ?_
              refine zw_some ?_
              refine zw_ite (fun h33 => ?_) (fun h33 => ?_)
              · have w34 := zu_w32_id (z := (m10 45 5) - 16) (by omega) (by omega)
                generalize hmm35 : zu_up m10 a0 7 (zu_w32 ((m10 45 5) - 16)) = m35
                have hIm35 := zi_up hmm35 hIm10 hc0 zb_3_7 (by omega) (by omega)
                have hFm35 := zfr_up hmm35 hFm10 hc0 rfl
                refine zw_b (by omega) ?_
                refine zw_some ?_
                refine zw_ite (fun h36 => ?_) (fun h36 => ?_)
                · exfalso; omega
                · refine zw_bd (zw_eq (zr_269_0 n a0 (m0 45 5) m35) ?_)
                  refine zw_ite (fun h37 => ?_) (fun h37 => ?_)
                  · exfalso; omega
                  · have r38 : (-2147483648) ≤ (m35 a0 7) ∧ (m35 a0 7) ≤ 2147483647 := zi_rd hIm35 hc0 zb_3_7
                    have e39 : (m35 a0 7) = (zu_w32 ((m10 45 5) - 16)) := (zs_eq hmm35)
                    generalize hmm40 : zu_up m35 19 10 (m35 a0 7) = m40
                    have hIm40 := zi_up hmm40 hIm35 zq_19 zb_6_10 (by omega) (by omega)
                    have hFm40 := zfr_up hmm40 hFm35 zq_19 rfl
                    refine zw_b (by omega) ?_
                    refine zw_some ?_
                    refine zw_ite (fun h41 => ?_) (fun h41 => ?_)
                    · exfalso; omega
                    · refine zw_b (by omega) ?_
                      exact zw_some ⟨hIm40, hFm40, ⟨by omega, by omega⟩⟩
              · exfalso; omega
      · refine zw_ite (fun h42 => ?_) (fun h42 => ?_)
        · refine zw_bd (zw_eq (zr_260_0 n a0 0 6 m7) ?_)
          refine zw_bd (zw_mono (zk_18 n hIm7 zq_45) (fun v44 m43 hqm43 => ?_))
          obtain ⟨hIm43, hfm43, hvm43⟩ := hqm43
          have hFm43 := zfr_tr hFm7 hfm43 rfl
          have r45 : 0 ≤ (m43 45 4) ∧ (m43 45 4) ≤ 5 := zi_rd hIm43 zq_45 zb_9_4
          refine zw_ite (fun h46 => ?_) (fun h46 => ?_)
          · have r47 : (-2147483648) ≤ (m43 45 5) ∧ (m43 45 5) ≤ 2147483647 := zi_rd hIm43 zq_45 zb_9_5
            generalize hmm48 : zu_up m43 a0 7 (m43 45 5) = m48
            have hIm48 := zi_up hmm48 hIm43 hc0 zb_3_7 (by omega) (by omega)
            have hFm48 := zfr_up hmm48 hFm43 hc0 rfl
            have r49 : (-2147483648) ≤ (m48 a0 7) ∧ (m48 a0 7) ≤ 2147483647 := zi_rd hIm48 hc0 zb_3_7
            have e50 : (m48 a0 7) = (m43 45 5) := (zs_eq hmm48)
            refine zw_ite (fun h51 => ?_) (fun h51 => ?_)
            · refine zw_bd (zw_eq (zr_257_0 n a0 2 m48) ?_)
              generalize hmm52 : zu_up m48 a0 9 2 = m52
              have hIm52 := zi_up hmm52 hIm48 hc0 zb_3_9 (by omega) (by omega)
              have hFm52 := zfr_up hmm52 hFm48 hc0 rfl
              have r53 : 0 ≤ (m52 45 6) ∧ (m52 45 6) ≤ 700 := zi_rd hIm52 zq_45 zb_9_6
              generalize hmm54 : zu_up m52 a0 10 (m52 45 6) = m54
              have hIm54 := zi_up hmm54 hIm52 hc0 zb_3_10 (by omega) (by omega)
              have hFm54 := zfr_up hmm54 hFm52 hc0 rfl
              refine zw_b (by omega) ?_
              refine zw_some ?_
              refine zw_ite (fun h55 => ?_) (fun h55 => ?_)
              · refine zw_b (by omega) ?_
                refine zw_some ?_
                refine zw_ite (fun h56 => ?_) (fun h56 => ?_)
                · refine zw_b (by omega) ?_
                  exact zw_some ⟨hIm54, hFm54, ⟨by omega, by omega⟩⟩
                · exfalso; omega
              · exfalso; omega
            · refine zw_ite (fun h57 => ?_) (fun h57 => ?_)
              · refine zw_b (by omega) ?_
                refine zw_some ?_
                refine zw_ite (fun h58 => ?_) (fun h58 => ?_)
                · exfalso; omega
                · refine zw_bd (zw_eq (zr_269_0 n a0 (m0 45 5) m48) ?_)
                  refine zw_ite (fun h59 => ?_) (fun h59 => ?_)
                  · refine zw_ite (fun h60 => ?_) (fun h60 => ?_)
                    · exfalso; omega
                    · generalize hmm61 : zu_up m48 6 3 (m48 a0 7) = m61
                      have hIm61 := zi_up hmm61 hIm48 zq_6 zb_4_3 (by omega) (by omega)
                      have hFm61 := zfr_up hmm61 hFm48 zq_6 rfl
                      refine zw_b (by omega) ?_
                      refine zw_some ?_
                      refine zw_ite (fun h62 => ?_) (fun h62 => ?_)
                      · exfalso; omega
                      · refine zw_b (by omega) ?_
                        exact zw_some ⟨hIm61, hFm61, ⟨by omega, by omega⟩⟩
                  · exfalso; omega
              · refine zw_bd (zw_eq (zr_257_0 n a0 2 m48) ?_)
                generalize hmm63 : zu_up m48 a0 9 2 = m63
                have hIm63 := zi_up hmm63 hIm48 hc0 zb_3_9 (by omega) (by omega)
                have hFm63 := zfr_up hmm63 hFm48 hc0 rfl
                have r64 : 0 ≤ (m63 45 6) ∧ (m63 45 6) ≤ 700 := zi_rd hIm63 zq_45 zb_9_6
                generalize hmm65 : zu_up m63 a0 10 (m63 45 6) = m65
                have hIm65 := zi_up hmm65 hIm63 hc0 zb_3_10 (by omega) (by omega)
                have hFm65 := zfr_up hmm65 hFm63 hc0 rfl
                refine zw_b (by omega) ?_
                refine zw_some ?_
                refine zw_ite (fun h66 => ?_) (fun h66 => ?_)
                · refine zw_b (by omega) ?_
                  refine zw_some ?_
                  refine zw_ite (fun h67 => ?_) (fun h67 => ?_)
                  · refine zw_b (by omega) ?_
                    exact zw_some ⟨hIm65, hFm65, ⟨by omega, by omega⟩⟩
                  · exfalso; omega
                · exfalso; omega
          · refine zw_bd (zw_eq (zr_257_0 n a0 1 m43) ?_)
            generalize hmm68 : zu_up m43 a0 9 1 = m68
            have hIm68 := zi_up hmm68 hIm43 hc0 zb_3_9 (by omega) (by omega)
            have hFm68 := zfr_up hmm68 hFm43 hc0 rfl
            have r69 : 0 ≤ (m68 45 6) ∧ (m68 45 6) ≤ 700 := zi_rd hIm68 zq_45 zb_9_6
            generalize hmm70 : zu_up m68 a0 10 (m68 45 6) = m70
            have hIm70 := zi_up hmm70 hIm68 hc0 zb_3_10 (by omega) (by omega)
            have hFm70 := zfr_up hmm70 hFm68 hc0 rfl
            refine zw_b (by omega) ?_
            refine zw_some ?_
            refine zw_b (by omega) ?_
            refine zw_some ?_
            refine zw_ite (fun h71 => ?_) (fun h71 => ?_)
            · refine zw_b (by omega) ?_
              exact zw_some ⟨hIm70, hFm70, ⟨by omega, by omega⟩⟩
            · exfalso; omega
        · refine zw_ite (fun h72 => ?_) (fun h72 => ?_)
          · refine zw_bd (zw_eq (zr_260_0 n a0 1 99 m7) ?_)
            refine zw_bd (zw_mono (zk_18 n hIm7 zq_45) (fun v74 m73 hqm73 => ?_))
            obtain ⟨hIm73, hfm73, hvm73⟩ := hqm73
            have hFm73 := zfr_tr hFm7 hfm73 rfl
            have r75 : 0 ≤ (m73 45 4) ∧ (m73 45 4) ≤ 5 := zi_rd hIm73 zq_45 zb_9_4
            refine zw_ite (fun h76 => ?_) (fun h76 => ?_)
            · have r77 : (-2147483648) ≤ (m73 45 5) ∧ (m73 45 5) ≤ 2147483647 := zi_rd hIm73 zq_45 zb_9_5
              generalize hmm78 : zu_up m73 a0 7 (m73 45 5) = m78
              have hIm78 := zi_up hmm78 hIm73 hc0 zb_3_7 (by omega) (by omega)
              have hFm78 := zfr_up hmm78 hFm73 hc0 rfl
              have r79 : (-2147483648) ≤ (m78 a0 7) ∧ (m78 a0 7) ≤ 2147483647 := zi_rd hIm78 hc0 zb_3_7
              have e80 : (m78 a0 7) = (m73 45 5) := (zs_eq hmm78)
              refine zw_ite (fun h81 => ?_) (fun h81 => ?_)
              · refine zw_bd (zw_eq (zr_257_0 n a0 2 m78) ?_)
                generalize hmm82 : zu_up m78 a0 9 2 = m82
                have hIm82 := zi_up hmm82 hIm78 hc0 zb_3_9 (by omega) (by omega)
                have hFm82 := zfr_up hmm82 hFm78 hc0 rfl
                have r83 : 0 ≤ (m82 45 6) ∧ (m82 45 6) ≤ 700 := zi_rd hIm82 zq_45 zb_9_6
                generalize hmm84 : zu_up m82 a0 10 (m82 45 6) = m84
                have hIm84 := zi_up hmm84 hIm82 hc0 zb_3_10 (by omega) (by omega)
                have hFm84 := zfr_up hmm84 hFm82 hc0 rfl
                refine zw_b (by omega) ?_
                refine zw_some ?_
                refine zw_ite (fun h85 => ?_) (fun h85 => ?_)
                · refine zw_b (by omega) ?_
                  refine zw_some ?_
                  refine zw_ite (fun h86 => ?_) (fun h86 => ?_)
                  · refine zw_b (by omega) ?_
                    exact zw_some ⟨hIm84, hFm84, ⟨by omega, by omega⟩⟩
                  · exfalso; omega
                · exfalso; omega
              · refine zw_ite (fun h87 => ?_) (fun h87 => ?_)
                · refine zw_b (by omega) ?_
                  refine zw_some ?_
                  refine zw_ite (fun h88 => ?_) (fun h88 => ?_)
                  · exfalso; omega
                  · refine zw_bd (zw_eq (zr_269_0 n a0 (m0 45 5) m78) ?_)
                    refine zw_ite (fun h89 => ?_) (fun h89 => ?_)
                    · refine zw_ite (fun h90 => ?_) (fun h90 => ?_)
                      · refine zw_ite (fun h91 => ?_) (fun h91 => ?_)
                        · exfalso; omega
                        · generalize hmm92 : zu_up m78 6 4 (m78 a0 7) = m92
                          have hIm92 := zi_up hmm92 hIm78 zq_6 zb_4_4 (by omega) (by omega)
                          have hFm92 := zfr_up hmm92 hFm78 zq_6 rfl
                          refine zw_b (by omega) ?_
                          refine zw_some ?_
                          refine zw_ite (fun h93 => ?_) (fun h93 => ?_)
                          · exfalso; omega
                          · refine zw_b (by omega) ?_
                            exact zw_some ⟨hIm92, hFm92, ⟨by omega, by omega⟩⟩
                      · exfalso; omega
                    · exfalso; omega
                · refine zw_bd (zw_eq (zr_257_0 n a0 2 m78) ?_)
                  generalize hmm94 : zu_up m78 a0 9 2 = m94
                  have hIm94 := zi_up hmm94 hIm78 hc0 zb_3_9 (by omega) (by omega)
                  have hFm94 := zfr_up hmm94 hFm78 hc0 rfl
                  have r95 : 0 ≤ (m94 45 6) ∧ (m94 45 6) ≤ 700 := zi_rd hIm94 zq_45 zb_9_6
                  generalize hmm96 : zu_up m94 a0 10 (m94 45 6) = m96
                  have hIm96 := zi_up hmm96 hIm94 hc0 zb_3_10 (by omega) (by omega)
                  have hFm96 := zfr_up hmm96 hFm94 hc0 rfl
                  refine zw_b (by omega) ?_
                  refine zw_some ?_
                  refine zw_ite (fun h97 => ?_) (fun h97 => ?_)
                  · refine zw_b (by omega) ?_
                    refine zw_some ?_
                    refine zw_ite (fun h98 => ?_) (fun h98 => ?_)
                    · refine zw_b (by omega) ?_
                      exact zw_some ⟨hIm96, hFm96, ⟨by omega, by omega⟩⟩
                    · exfalso; omega
                  · exfalso; omega
            · refine zw_bd (zw_eq (zr_257_0 n a0 1 m73) ?_)
              generalize hmm99 : zu_up m73 a0 9 1 = m99
              have hIm99 := zi_up hmm99 hIm73 hc0 zb_3_9 (by omega) (by omega)
              have hFm99 := zfr_up hmm99 hFm73 hc0 rfl
              have r100 : 0 ≤ (m99 45 6) ∧ (m99 45 6) ≤ 700 := zi_rd hIm99 zq_45 zb_9_6
              generalize hmm101 : zu_up m99 a0 10 (m99 45 6) = m101
              have hIm101 := zi_up hmm101 hIm99 hc0 zb_3_10 (by omega) (by omega)
              have hFm101 := zfr_up hmm101 hFm99 hc0 rfl
              refine zw_b (by omega) ?_
              refine zw_some ?_
              refine zw_b (by omega) ?_
              refine zw_some ?_
              refine zw_ite (fun h102 => ?_) (fun h102 => ?_)
              · refine zw_b (by omega) ?_
                exact zw_some ⟨hIm101, hFm101, ⟨by omega, by omega⟩⟩
              · exfalso; omega
          · refine zw_ite (fun h103 => ?_) (fun h103 => ?_)
            · refine zw_bd (zw_eq (zr_260_0 n a0 0 999 m7) ?_)
              refine zw_bd (zw_mono (zk_18 n hIm7 zq_45) (fun v105 m104 hqm104 => ?_))
              obtain ⟨hIm104, hfm104, hvm104⟩ := hqm104
              have hFm104 := zfr_tr hFm7 hfm104 rfl
              have r106 : 0 ≤ (m104 45 4) ∧ (m104 45 4) ≤ 5 := zi_rd hIm104 zq_45 zb_9_4
              refine zw_ite (fun h107 => ?_) (fun h107 => ?_)
              · have r108 : (-2147483648) ≤ (m104 45 5) ∧ (m104 45 5) ≤ 2147483647 := zi_rd hIm104 zq_45 zb_9_5
                generalize hmm109 : zu_up m104 a0 7 (m104 45 5) = m109
                have hIm109 := zi_up hmm109 hIm104 hc0 zb_3_7 (by omega) (by omega)
                have hFm109 := zfr_up hmm109 hFm104 hc0 rfl
                have r110 : (-2147483648) ≤ (m109 a0 7) ∧ (m109 a0 7) ≤ 2147483647 := zi_rd hIm109 hc0 zb_3_7
                have e111 : (m109 a0 7) = (m104 45 5) := (zs_eq hmm109)
                refine zw_ite (fun h112 => ?_) (fun h112 => ?_)
                · refine zw_bd (zw_eq (zr_257_0 n a0 2 m109) ?_)
                  generalize hmm113 : zu_up m109 a0 9 2 = m113
                  have hIm113 := zi_up hmm113 hIm109 hc0 zb_3_9 (by omega) (by omega)
                  have hFm113 := zfr_up hmm113 hFm109 hc0 rfl
                  have r114 : 0 ≤ (m113 45 6) ∧ (m113 45 6) ≤ 700 := zi_rd hIm113 zq_45 zb_9_6
                  generalize hmm115 : zu_up m113 a0 10 (m113 45 6) = m115
                  have hIm115 := zi_up hmm115 hIm113 hc0 zb_3_10 (by omega) (by omega)
                  have hFm115 := zfr_up hmm115 hFm113 hc0 rfl
                  refine zw_b (by omega) ?_
                  refine zw_some ?_
                  refine zw_ite (fun h116 => ?_) (fun h116 => ?_)
                  · refine zw_b (by omega) ?_
                    refine zw_some ?_
                    refine zw_ite (fun h117 => ?_) (fun h117 => ?_)
                    · refine zw_b (by omega) ?_
                      exact zw_some ⟨hIm115, hFm115, ⟨by omega, by omega⟩⟩
                    · exfalso; omega
                  · exfalso; omega
                · refine zw_ite (fun h118 => ?_) (fun h118 => ?_)
                  · refine zw_b (by omega) ?_
                    refine zw_some ?_
                    refine zw_ite (fun h119 => ?_) (fun h119 => ?_)
                    · exfalso; omega
                    · refine zw_bd (zw_eq (zr_269_0 n a0 (m0 45 5) m109) ?_)
                      refine zw_ite (fun h120 => ?_) (fun h120 => ?_)
                      · refine zw_ite (fun h121 => ?_) (fun h121 => ?_)
                        · refine zw_ite (fun h122 => ?_) (fun h122 => ?_)
                          · refine zw_ite (fun h123 => ?_) (fun h123 => ?_)
                            · exfalso; omega
                            · generalize hmm124 : zu_up m109 19 11 (m109 a0 7) = m124
                              have hIm124 := zi_up hmm124 hIm109 zq_19 zb_6_11 (by omega) (by omega)
                              have hFm124 := zfr_up hmm124 hFm109 zq_19 rfl
                              refine zw_b (by omega) ?_
                              refine zw_some ?_
                              refine zw_ite (fun h125 => ?_) (fun h125 => ?_)
                              · exfalso; omega
                              · refine zw_b (by omega) ?_
                                exact zw_some ⟨hIm124, hFm124, ⟨by omega, by omega⟩⟩
                          · exfalso; omega
                        · exfalso; omega
                      · exfalso; omega
                  · refine zw_bd (zw_eq (zr_257_0 n a0 2 m109) ?_)
                    generalize hmm126 : zu_up m109 a0 9 2 = m126
                    have hIm126 := zi_up hmm126 hIm109 hc0 zb_3_9 (by omega) (by omega)
                    have hFm126 := zfr_up hmm126 hFm109 hc0 rfl
                    have r127 : 0 ≤ (m126 45 6) ∧ (m126 45 6) ≤ 700 := zi_rd hIm126 zq_45 zb_9_6
                    generalize hmm128 : zu_up m126 a0 10 (m126 45 6) = m128
                    have hIm128 := zi_up hmm128 hIm126 hc0 zb_3_10 (by omega) (by omega)
                    have hFm128 := zfr_up hmm128 hFm126 hc0 rfl
                    refine zw_b (by omega) ?_
                    refine zw_some ?_
                    refine zw_ite (fun h129 => ?_) (fun h129 => ?_)
                    · refine zw_b (by omega) ?_
                      refine zw_some ?_
                      refine zw_ite (fun h130 => ?_) (fun h130 => ?_)
                      · refine zw_b (by omega) ?_
                        exact zw_some ⟨hIm128, hFm128, ⟨by omega, by omega⟩⟩
                      · exfalso; omega
                    · exfalso; omega
              · refine zw_bd (zw_eq (zr_257_0 n a0 1 m104) ?_)
                generalize hmm131 : zu_up m104 a0 9 1 = m131
                have hIm131 := zi_up hmm131 hIm104 hc0 zb_3_9 (by omega) (by omega)
                have hFm131 := zfr_up hmm131 hFm104 hc0 rfl
                have r132 : 0 ≤ (m131 45 6) ∧ (m131 45 6) ≤ 700 := zi_rd hIm131 zq_45 zb_9_6
                generalize hmm133 : zu_up m131 a0 10 (m131 45 6) = m133
                have hIm133 := zi_up hmm133 hIm131 hc0 zb_3_10 (by omega) (by omega)
                have hFm133 := zfr_up hmm133 hFm131 hc0 rfl
                refine zw_b (by omega) ?_
                refine zw_some ?_
                refine zw_b (by omega) ?_
                refine zw_some ?_
                refine zw_ite (fun h134 => ?_) (fun h134 => ?_)
                · refine zw_b (by omega) ?_
                  exact zw_some ⟨hIm133, hFm133, ⟨by omega, by omega⟩⟩
                · exfalso; omega
            · refine zw_bd (zw_eq (zr_260_0 n a0 0 99999 m7) ?_)
              refine zw_bd (zw_mono (zk_18 n hIm7 zq_45) (fun v136 m135 hqm135 => ?_))
              obtain ⟨hIm135, hfm135, hvm135⟩ := hqm135
              have hFm135 := zfr_tr hFm7 hfm135 rfl
              have r137 : 0 ≤ (m135 45 4) ∧ (m135 45 4) ≤ 5 := zi_rd hIm135 zq_45 zb_9_4
              refine zw_ite (fun h138 => ?_) (fun h138 => ?_)
              · have r139 : (-2147483648) ≤ (m135 45 5) ∧ (m135 45 5) ≤ 2147483647 := zi_rd hIm135 zq_45 zb_9_5
                generalize hmm140 : zu_up m135 a0 7 (m135 45 5) = m140
                have hIm140 := zi_up hmm140 hIm135 hc0 zb_3_7 (by omega) (by omega)
                have hFm140 := zfr_up hmm140 hFm135 hc0 rfl
                have r141 : (-2147483648) ≤ (m140 a0 7) ∧ (m140 a0 7) ≤ 2147483647 := zi_rd hIm140 hc0 zb_3_7
                have e142 : (m140 a0 7) = (m135 45 5) := (zs_eq hmm140)
                refine zw_ite (fun h143 => ?_) (fun h143 => ?_)
                · refine zw_bd (zw_eq (zr_257_0 n a0 2 m140) ?_)
                  generalize hmm144 : zu_up m140 a0 9 2 = m144
                  have hIm144 := zi_up hmm144 hIm140 hc0 zb_3_9 (by omega) (by omega)
                  have hFm144 := zfr_up hmm144 hFm140 hc0 rfl
                  have r145 : 0 ≤ (m144 45 6) ∧ (m144 45 6) ≤ 700 := zi_rd hIm144 zq_45 zb_9_6
                  generalize hmm146 : zu_up m144 a0 10 (m144 45 6) = m146
                  have hIm146 := zi_up hmm146 hIm144 hc0 zb_3_10 (by omega) (by omega)
                  have hFm146 := zfr_up hmm146 hFm144 hc0 rfl
                  refine zw_b (by omega) ?_
                  refine zw_some ?_
                  refine zw_ite (fun h147 => ?_) (fun h147 => ?_)
                  · refine zw_b (by omega) ?_
                    refine zw_some ?_
                    refine zw_ite (fun h148 => ?_) (fun h148 => ?_)
                    · refine zw_b (by omega) ?_
                      exact zw_some ⟨hIm146, hFm146, ⟨by omega, by omega⟩⟩
                    · exfalso; omega
                  · exfalso; omega
                · refine zw_ite (fun h149 => ?_) (fun h149 => ?_)
                  · refine zw_b (by omega) ?_
                    refine zw_some ?_
                    refine zw_ite (fun h150 => ?_) (fun h150 => ?_)
                    · exfalso; omega
                    · refine zw_bd (zw_eq (zr_269_0 n a0 (m0 45 5) m140) ?_)
                      refine zw_ite (fun h151 => ?_) (fun h151 => ?_)
                      · refine zw_ite (fun h152 => ?_) (fun h152 => ?_)
                        · refine zw_ite (fun h153 => ?_) (fun h153 => ?_)
                          · refine zw_ite (fun h154 => ?_) (fun h154 => ?_)
                            · refine zw_ite (fun h155 => ?_) (fun h155 => ?_)
                              · refine zw_b (by omega) ?_
                                refine zw_some ?_
                                refine zw_ite (fun h156 => ?_) (fun h156 => ?_)
                                · exfalso; omega
                                · refine zw_b (by omega) ?_
                                  exact zw_some ⟨hIm140, hFm140, ⟨by omega, by omega⟩⟩
                              · generalize hmm157 : zu_up m140 6 5 (m140 a0 7) = m157
                                have hIm157 := zi_up hmm157 hIm140 zq_6 zb_4_5 (by omega) (by omega)
                                have hFm157 := zfr_up hmm157 hFm140 zq_6 rfl
                                refine zw_b (by omega) ?_
                                refine zw_some ?_
                                refine zw_ite (fun h158 => ?_) (fun h158 => ?_)
                                · exfalso; omega
                                · refine zw_b (by omega) ?_
                                  exact zw_some ⟨hIm157, hFm157, ⟨by omega, by omega⟩⟩
                            · exfalso; omega
                          · exfalso; omega
                        · exfalso; omega
                      · exfalso; omega
                  · refine zw_bd (zw_eq (zr_257_0 n a0 2 m140) ?_)
                    generalize hmm159 : zu_up m140 a0 9 2 = m159
                    have hIm159 := zi_up hmm159 hIm140 hc0 zb_3_9 (by omega) (by omega)
                    have hFm159 := zfr_up hmm159 hFm140 hc0 rfl
                    have r160 : 0 ≤ (m159 45 6) ∧ (m159 45 6) ≤ 700 := zi_rd hIm159 zq_45 zb_9_6
                    generalize hmm161 : zu_up m159 a0 10 (m159 45 6) = m161
                    have hIm161 := zi_up hmm161 hIm159 hc0 zb_3_10 (by omega) (by omega)
                    have hFm161 := zfr_up hmm161 hFm159 hc0 rfl
                    refine zw_b (by omega) ?_
                    refine zw_some ?_
                    refine zw_ite (fun h162 => ?_) (fun h162 => ?_)
                    · refine zw_b (by omega) ?_
                      refine zw_some ?_
                      refine zw_ite (fun h163 => ?_) (fun h163 => ?_)
                      · refine zw_b (by omega) ?_
                        exact zw_some ⟨hIm161, hFm161, ⟨by omega, by omega⟩⟩
                      · exfalso; omega
                    · exfalso; omega
              · refine zw_bd (zw_eq (zr_257_0 n a0 1 m135) ?_)
                generalize hmm164 : zu_up m135 a0 9 1 = m164
                have hIm164 := zi_up hmm164 hIm135 hc0 zb_3_9 (by omega) (by omega)
                have hFm164 := zfr_up hmm164 hFm135 hc0 rfl
                have r165 : 0 ≤ (m164 45 6) ∧ (m164 45 6) ≤ 700 := zi_rd hIm164 zq_45 zb_9_6
                generalize hmm166 : zu_up m164 a0 10 (m164 45 6) = m166
                have hIm166 := zi_up hmm166 hIm164 hc0 zb_3_10 (by omega) (by omega)
                have hFm166 := zfr_up hmm166 hFm164 hc0 rfl
                refine zw_b (by omega) ?_
                refine zw_some ?_
                refine zw_b (by omega) ?_
                refine zw_some ?_
                refine zw_ite (fun h167 => ?_) (fun h167 => ?_)
                · refine zw_b (by omega) ?_
                  exact zw_some ⟨hIm166, hFm166, ⟨by omega, by omega⟩⟩
                · exfalso; omega
    · exfalso; omega
  · refine zw_bd (zw_eq (zr_257_0 n a0 3 m0) ?_)
    generalize hmm168 : zu_up m0 a0 9 3 = m168
    have hIm168 := zi_up hmm168 hIm0 hc0 zb_3_9 (by omega) (by omega)
    have hFm168 := zfr_up hmm168 hFm0 hc0 rfl
    have r169 : 0 ≤ (m168 45 6) ∧ (m168 45 6) ≤ 700 := zi_rd hIm168 zq_45 zb_9_6
    generalize hmm170 : zu_up m168 a0 10 (m168 45 6) = m170
    have hIm170 := zi_up hmm170 hIm168 hc0 zb_3_10 (by omega) (by omega)
    have hFm170 := zfr_up hmm170 hFm168 hc0 rfl
    refine zw_b (by omega) ?_
    refine zw_some ?_
    refine zw_b (by omega) ?_
    refine zw_some ?_
    refine zw_ite (fun h171 => ?_) (fun h171 => ?_)
    · exfalso; omega
    · refine zw_b (by omega) ?_
      exact zw_some ⟨hIm170, hFm170, ⟨by omega, by omega⟩⟩
set_option maxHeartbeats 4000000 in
theorem zk_291 (n : Nat) {a0 a1 a2 : Int} {m0 : zu_m} (hIm0 : zi_I m0) (hc0 : zcls a0 = 24) (ha1 : 0 ≤ a1 ∧ a1 ≤ 3) (ha2 : 0 ≤ a2 ∧ a2 ≤ 17)    (hRK54m0 : zR_K54 m0) : zw (zu_call (zt_T n) 291 [(33, a0), (0, a1), (0, a2)] m0) (fun v m => zi_I m ∧ zfr [(56, 0), (59, 0), (90, 0), (91, 0)] m0 m ∧ zR_K54 m ∧ (0 ≤ v ∧ v ≤ 1)) := by
  have hFm0 : zfr [(56, 0), (59, 0), (90, 0), (91, 0)] m0 m0 := zfr_rf _ _
  refine zw_eq (zr_291_0 n a0 a1 a2 m0) ?_
  have r1 : 0 ≤ (m0 89 2) ∧ (m0 89 2) ≤ 16 := zi_rd hIm0 zq_89 zb_16_2
  refine zw_ite (fun h2 => ?_) (fun h2 => ?_)
  · have w3 := zu_w32_id (z := a1 * 64) (by omega) (by omega)
    refine zw_ite (fun h4 => ?_) (fun h4 => ?_)
    · have b5 : 0 ≤ a2 ∧ a2 < 18 := by omega
      refine zw_if b5 ?_
      have r6 : 0 ≤ (m0 155 a2) ∧ (m0 155 a2) ≤ 47 := zi_rd hIm0 zq_155 (zb_86 _)
      have w7 := zu_w32_id (z := 16 + (m0 155 a2)) (by omega) (by omega)
      have w8 := zu_w32_id (z := (zu_w32 (a1 * 64)) + (zu_w32 (16 + (m0 155 a2)))) (by omega) (by omega)
      have b9 : 0 ≤ a1 ∧ a1 < 4 := by omega
      refine zw_if b9 ?_
      have r10 : (-2147483648) ≤ (m0 158 a1) ∧ (m0 158 a1) ≤ 2147483647 := zi_rd hIm0 zq_158 (zb_89 _)
      have b11 := zu_i32_rg 5 1 (m0 158 a1)
      have b12 : 0 ≤ (zu_w32 ((zu_w32 (a1 * 64)) + (zu_w32 (16 + (m0 155 a2))))) ∧ (zu_w32 ((zu_w32 (a1 * 64)) + (zu_w32 (16 + (m0 155 a2))))) < 256 := by omega
      refine zw_if b12 ?_
      have r13 : (-2147483648) ≤ (m0 159 (zu_w32 ((zu_w32 (a1 * 64)) + (zu_w32 (16 + (m0 155 a2)))))) ∧ (m0 159 (zu_w32 ((zu_w32 (a1 * 64)) + (zu_w32 (16 + (m0 155 a2)))))) ≤ 2147483647 := zi_rd hIm0 zq_159 (zb_90 _)
      have b14 := zu_i32_rg 3 (m0 159 (zu_w32 ((zu_w32 (a1 * 64)) + (zu_w32 (16 + (m0 155 a2)))))) (zu_i32 5 1 (m0 158 a1))
      refine zw_ite (fun h15 => ?_) (fun h15 => ?_)
      · have b16 : 0 ≤ (zu_w32 ((zu_w32 (a1 * 64)) + (zu_w32 (16 + (m0 155 a2))))) ∧ (zu_w32 ((zu_w32 (a1 * 64)) + (zu_w32 (16 + (m0 155 a2))))) < 256 := by omega
        refine zw_if b16 ?_
        have r17 : (-2147483648) ≤ (m0 160 (zu_w32 ((zu_w32 (a1 * 64)) + (zu_w32 (16 + (m0 155 a2)))))) ∧ (m0 160 (zu_w32 ((zu_w32 (a1 * 64)) + (zu_w32 (16 + (m0 155 a2)))))) ≤ 2147483647 := zi_rd hIm0 zq_160 (zb_91 _)
        have b18 := zu_i32_rg 3 (m0 160 (zu_w32 ((zu_w32 (a1 * 64)) + (zu_w32 (16 + (m0 155 a2)))))) (zu_i32 5 1 (m0 158 a1))
        refine zw_ite (fun h19 => ?_) (fun h19 => ?_)
        · refine zw_b (by omega) ?_
          exact zw_some ⟨hIm0, hFm0, hRK54m0, ⟨by omega, by omega⟩⟩
        · refine zw_ite (fun h20 => ?_) (fun h20 => ?_)
          · have r21 : 0 ≤ (m0 a0 13) ∧ (m0 a0 13) ≤ 3 := zi_rd hIm0 hc0 zb_24_13
            refine zw_bd (zw_eq (zr_217_0 n 89 a1 (m0 a0 13) m0) ?_)
            have r22 : 0 ≤ (m0 89 10) ∧ (m0 89 10) ≤ 3 := zi_rd hIm0 zq_89 zb_16_10
            refine zw_ite (fun h23 => ?_) (fun h23 => ?_)
            · refine zw_b (by omega) ?_
              refine zw_some ?_
              refine zw_ite (fun h24 => ?_) (fun h24 => ?_)
              · exfalso; omega
              · refine zw_b (by omega) ?_
                exact zw_some ⟨hIm0, hFm0, hRK54m0, ⟨by omega, by omega⟩⟩
            · refine zw_nif (by omega) ?_
              have d25 : Int.tmod a1 4 = a1 % 4 := Int.tmod_eq_emod_of_nonneg (by omega)
              refine zw_ite (fun h26 => ?_) (fun h26 => ?_)
              · refine zw_b (by omega) ?_
                refine zw_some ?_
                refine zw_ite (fun h27 => ?_) (fun h27 => ?_)
                · refine zw_b (by omega) ?_
                  exact zw_some ⟨hIm0, hFm0, hRK54m0, ⟨by omega, by omega⟩⟩
                · exfalso; omega
              · refine zw_b (by omega) ?_
                refine zw_some ?_
                refine zw_ite (fun h28 => ?_) (fun h28 => ?_)
                · exfalso; omega
                · refine zw_b (by omega) ?_
                  exact zw_some ⟨hIm0, hFm0, hRK54m0, ⟨by omega, by omega⟩⟩
          · exfalso; omega
      · have b29 : 0 ≤ (zu_w32 ((zu_w32 (a1 * 64)) + (zu_w32 (16 + (m0 155 a2))))) ∧ (zu_w32 ((zu_w32 (a1 * 64)) + (zu_w32 (16 + (m0 155 a2))))) < 256 := by omega
        refine zw_if b29 ?_
        have b30 := zu_i32_rg 4 (m0 159 (zu_w32 ((zu_w32 (a1 * 64)) + (zu_w32 (16 + (m0 155 a2)))))) (zu_i32 5 1 (m0 158 a1))
        have b31 : 0 ≤ (zu_w32 ((zu_w32 (a1 * 64)) + (zu_w32 (16 + (m0 155 a2))))) ∧ (zu_w32 ((zu_w32 (a1 * 64)) + (zu_w32 (16 + (m0 155 a2))))) < 256 := by omega
        refine zw_if b31 ?_
        generalize hmm32 : zu_up m0 159 (zu_w32 ((zu_w32 (a1 * 64)) + (zu_w32 (16 + (m0 155 a2))))) (zu_i32 4 (m0 159 (zu_w32 ((zu_w32 (a1 * 64)) + (zu_w32 (16 + (m0 155 a2)))))) (zu_i32 5 1 (m0 158 a1))) = m32
        have hIm32 := zi_up hmm32 hIm0 zq_159 (zb_90 _) (by omega) (by omega)
        have hFm32 := zfr_up hmm32 hFm0 zq_159 rfl
        have hRK54m32 := zR_K54_fr (zdis_fr (zfr_up hmm32 (zfr_rf [(90, 0)] _) zq_159 rfl) rfl) hRK54m0
        refine zw_bd (zw_mono (zk_292 n hIm32 hc0 ⟨by omega, by omega⟩ ⟨by omega, by omega⟩) (fun v34 m33 hqm33 => ?_))
        obtain ⟨hIm33, hfm33, hvm33⟩ := hqm33
        have hFm33 := zfr_tr hFm32 hfm33 rfl
        have hRK54m33 := zR_K54_fr (zdis_fr hfm33 rfl) hRK54m32
        refine zw_bd (zw_mono (zk_250 n hIm33 zq_50 hRK54m33) (fun v36 m35 hqm35 => ?_))
        obtain ⟨hIm35, hfm35, hvm35⟩ := hqm35
        have hFm35 := zfr_tr hFm33 hfm35 rfl
        obtain ⟨hRK54m35, hvm35⟩ := hvm35
        refine zw_ite (fun h37 => ?_) (fun h37 => ?_)
        · have b38 : 0 ≤ (zu_w32 ((zu_w32 (a1 * 64)) + (zu_w32 (16 + (m0 155 a2))))) ∧ (zu_w32 ((zu_w32 (a1 * 64)) + (zu_w32 (16 + (m0 155 a2))))) < 256 := by omega
          refine zw_if b38 ?_
          have r39 : (-2147483648) ≤ (m35 160 (zu_w32 ((zu_w32 (a1 * 64)) + (zu_w32 (16 + (m0 155 a2)))))) ∧ (m35 160 (zu_w32 ((zu_w32 (a1 * 64)) + (zu_w32 (16 + (m0 155 a2)))))) ≤ 2147483647 := zi_rd hIm35 zq_160 (zb_91 _)
          have b40 := zu_i32_rg 3 (m35 160 (zu_w32 ((zu_w32 (a1 * 64)) + (zu_w32 (16 + (m0 155 a2)))))) (zu_i32 5 1 (m0 158 a1))
          refine zw_ite (fun h41 => ?_) (fun h41 => ?_)
          · refine zw_b (by omega) ?_
            exact zw_some ⟨hIm35, hFm35, hRK54m35, ⟨by omega, by omega⟩⟩
          · refine zw_ite (fun h42 => ?_) (fun h42 => ?_)
            · have r43 : 0 ≤ (m35 a0 13) ∧ (m35 a0 13) ≤ 3 := zi_rd hIm35 hc0 zb_24_13
              refine zw_bd (zw_eq (zr_217_0 n 89 a1 (m35 a0 13) m35) ?_)
              have r44 : 0 ≤ (m35 89 10) ∧ (m35 89 10) ≤ 3 := zi_rd hIm35 zq_89 zb_16_10
              refine zw_ite (fun h45 => ?_) (fun h45 => ?_)
              · refine zw_b (by omega) ?_
                refine zw_some ?_
                refine zw_ite (fun h46 => ?_) (fun h46 => ?_)
                · exfalso; omega
                · refine zw_b (by omega) ?_
                  exact zw_some ⟨hIm35, hFm35, hRK54m35, ⟨by omega, by omega⟩⟩
              · refine zw_nif (by omega) ?_
                have d47 : Int.tmod a1 4 = a1 % 4 := Int.tmod_eq_emod_of_nonneg (by omega)
                refine zw_ite (fun h48 => ?_) (fun h48 => ?_)
                · refine zw_b (by omega) ?_
                  refine zw_some ?_
                  refine zw_ite (fun h49 => ?_) (fun h49 => ?_)
                  · refine zw_b (by omega) ?_
                    exact zw_some ⟨hIm35, hFm35, hRK54m35, ⟨by omega, by omega⟩⟩
                  · exfalso; omega
                · refine zw_b (by omega) ?_
                  refine zw_some ?_
                  refine zw_ite (fun h50 => ?_) (fun h50 => ?_)
                  · exfalso; omega
                  · refine zw_b (by omega) ?_
                    exact zw_some ⟨hIm35, hFm35, hRK54m35, ⟨by omega, by omega⟩⟩
            · exfalso; omega
        · have b51 : 0 ≤ (zu_w32 ((zu_w32 (a1 * 64)) + (zu_w32 (16 + (m0 155 a2))))) ∧ (zu_w32 ((zu_w32 (a1 * 64)) + (zu_w32 (16 + (m0 155 a2))))) < 256 := by omega
          refine zw_if b51 ?_
          have r52 : (-2147483648) ≤ (m35 160 (zu_w32 ((zu_w32 (a1 * 64)) + (zu_w32 (16 + (m0 155 a2)))))) ∧ (m35 160 (zu_w32 ((zu_w32 (a1 * 64)) + (zu_w32 (16 + (m0 155 a2)))))) ≤ 2147483647 := zi_rd hIm35 zq_160 (zb_91 _)
          have b53 := zu_i32_rg 4 (m35 160 (zu_w32 ((zu_w32 (a1 * 64)) + (zu_w32 (16 + (m0 155 a2)))))) (zu_i32 5 1 (m0 158 a1))
          have b54 : 0 ≤ (zu_w32 ((zu_w32 (a1 * 64)) + (zu_w32 (16 + (m0 155 a2))))) ∧ (zu_w32 ((zu_w32 (a1 * 64)) + (zu_w32 (16 + (m0 155 a2))))) < 256 := by omega
          refine zw_if b54 ?_
          generalize hmm55 : zu_up m35 160 (zu_w32 ((zu_w32 (a1 * 64)) + (zu_w32 (16 + (m0 155 a2))))) (zu_i32 4 (m35 160 (zu_w32 ((zu_w32 (a1 * 64)) + (zu_w32 (16 + (m0 155 a2)))))) (zu_i32 5 1 (m0 158 a1))) = m55
          have hIm55 := zi_up hmm55 hIm35 zq_160 (zb_91 _) (by omega) (by omega)
          have hFm55 := zfr_up hmm55 hFm35 zq_160 rfl
          have hRK54m55 := zR_K54_fr (zdis_fr (zfr_up hmm55 (zfr_rf [(91, 0)] _) zq_160 rfl) rfl) hRK54m35
          have b56 : 0 ≤ (zu_w32 ((zu_w32 (a1 * 64)) + (zu_w32 (16 + (m0 155 a2))))) ∧ (zu_w32 ((zu_w32 (a1 * 64)) + (zu_w32 (16 + (m0 155 a2))))) < 256 := by omega
          refine zw_if b56 ?_
          have r57 : (-2147483648) ≤ (m55 160 (zu_w32 ((zu_w32 (a1 * 64)) + (zu_w32 (16 + (m0 155 a2)))))) ∧ (m55 160 (zu_w32 ((zu_w32 (a1 * 64)) + (zu_w32 (16 + (m0 155 a2)))))) ≤ 2147483647 := zi_rd hIm55 zq_160 (zb_91 _)
          have e58 : (m55 160 (zu_w32 ((zu_w32 (a1 * 64)) + (zu_w32 (16 + (m0 155 a2)))))) = (zu_i32 4 (m35 160 (zu_w32 ((zu_w32 (a1 * 64)) + (zu_w32 (16 + (m0 155 a2)))))) (zu_i32 5 1 (m0 158 a1))) := (zs_eq hmm55)
          have b59 := zu_i32_rg 3 (m55 160 (zu_w32 ((zu_w32 (a1 * 64)) + (zu_w32 (16 + (m0 155 a2)))))) (zu_i32 5 1 (m0 158 a1))
          refine zw_ite (fun h60 => ?_) (fun h60 => ?_)
          · refine zw_b (by omega) ?_
            exact zw_some ⟨hIm55, hFm55, hRK54m55, ⟨by omega, by omega⟩⟩
          · refine zw_ite (fun h61 => ?_) (fun h61 => ?_)
            · have r62 : 0 ≤ (m55 a0 13) ∧ (m55 a0 13) ≤ 3 := zi_rd hIm55 hc0 zb_24_13
              refine zw_bd (zw_eq (zr_217_0 n 89 a1 (m55 a0 13) m55) ?_)
              have r63 : 0 ≤ (m55 89 10) ∧ (m55 89 10) ≤ 3 := zi_rd hIm55 zq_89 zb_16_10
              refine zw_ite (fun h64 => ?_) (fun h64 => ?_)
              · refine zw_b (by omega) ?_
                refine zw_some ?_
                refine zw_ite (fun h65 => ?_) (fun h65 => ?_)
                · exfalso; omega
                · refine zw_b (by omega) ?_
                  exact zw_some ⟨hIm55, hFm55, hRK54m55, ⟨by omega, by omega⟩⟩
              · refine zw_nif (by omega) ?_
                have d66 : Int.tmod a1 4 = a1 % 4 := Int.tmod_eq_emod_of_nonneg (by omega)
                refine zw_ite (fun h67 => ?_) (fun h67 => ?_)
                · refine zw_b (by omega) ?_
                  refine zw_some ?_
                  refine zw_ite (fun h68 => ?_) (fun h68 => ?_)
                  · refine zw_b (by omega) ?_
                    exact zw_some ⟨hIm55, hFm55, hRK54m55, ⟨by omega, by omega⟩⟩
                  · exfalso; omega
                · refine zw_b (by omega) ?_
                  refine zw_some ?_
                  refine zw_ite (fun h69 => ?_) (fun h69 => ?_)
                  · exfalso; omega
                  · refine zw_b (by omega) ?_
                    exact zw_some ⟨hIm55, hFm55, hRK54m55, ⟨by omega, by omega⟩⟩
            · exfalso; omega
    · exfalso; omega
  · have w70 := zu_w32_id (z := a1 * 64) (by omega) (by omega)
    refine zw_ite (fun h71 => ?_) (fun h71 => ?_)
    · exfalso; omega
    · have w72 := zu_w32_id (z := (zu_w32 (a1 * 64)) + a2) (by omega) (by omega)
      have b73 : 0 ≤ a1 ∧ a1 < 4 := by omega
      refine zw_if b73 ?_
      have r74 : (-2147483648) ≤ (m0 158 a1) ∧ (m0 158 a1) ≤ 2147483647 := zi_rd hIm0 zq_158 (zb_89 _)
      have b75 := zu_i32_rg 5 1 (m0 158 a1)
      have b76 : 0 ≤ (zu_w32 ((zu_w32 (a1 * 64)) + a2)) ∧ (zu_w32 ((zu_w32 (a1 * 64)) + a2)) < 256 := by omega
      refine zw_if b76 ?_
      have r77 : (-2147483648) ≤ (m0 159 (zu_w32 ((zu_w32 (a1 * 64)) + a2))) ∧ (m0 159 (zu_w32 ((zu_w32 (a1 * 64)) + a2))) ≤ 2147483647 := zi_rd hIm0 zq_159 (zb_90 _)
      have b78 := zu_i32_rg 3 (m0 159 (zu_w32 ((zu_w32 (a1 * 64)) + a2))) (zu_i32 5 1 (m0 158 a1))
      refine zw_ite (fun h79 => ?_) (fun h79 => ?_)
      · have b80 : 0 ≤ (zu_w32 ((zu_w32 (a1 * 64)) + a2)) ∧ (zu_w32 ((zu_w32 (a1 * 64)) + a2)) < 256 := by omega
        refine zw_if b80 ?_
        have r81 : (-2147483648) ≤ (m0 160 (zu_w32 ((zu_w32 (a1 * 64)) + a2))) ∧ (m0 160 (zu_w32 ((zu_w32 (a1 * 64)) + a2))) ≤ 2147483647 := zi_rd hIm0 zq_160 (zb_91 _)
        have b82 := zu_i32_rg 3 (m0 160 (zu_w32 ((zu_w32 (a1 * 64)) + a2))) (zu_i32 5 1 (m0 158 a1))
        refine zw_ite (fun h83 => ?_) (fun h83 => ?_)
        · refine zw_b (by omega) ?_
          exact zw_some ⟨hIm0, hFm0, hRK54m0, ⟨by omega, by omega⟩⟩
        · refine zw_ite (fun h84 => ?_) (fun h84 => ?_)
          · exfalso; omega
          · have b85 : 0 ≤ a2 ∧ a2 < 16 := by omega
            refine zw_if b85 ?_
            have r86 : 0 ≤ (m0 ((89 + 1) + 5 + a2) 1) ∧ (m0 ((89 + 1) + 5 + a2) 1) ≤ 3 := zi_rd hIm0 (zc_65_e (zc_16_1 zq_89) b85) zb_17_1
            refine zw_bd (zw_eq (zr_217_0 n 89 a1 (m0 ((89 + 1) + 5 + a2) 1) m0) ?_)
            have r87 : 0 ≤ (m0 89 10) ∧ (m0 89 10) ≤ 3 := zi_rd hIm0 zq_89 zb_16_10
            refine zw_ite (fun h88 => ?_) (fun h88 => ?_)
            · refine zw_b (by omega) ?_
              refine zw_some ?_
              refine zw_ite (fun h89 => ?_) (fun h89 => ?_)
              · exfalso; omega
              · refine zw_b (by omega) ?_
                exact zw_some ⟨hIm0, hFm0, hRK54m0, ⟨by omega, by omega⟩⟩
            · refine zw_nif (by omega) ?_
              have d90 : Int.tmod a1 4 = a1 % 4 := Int.tmod_eq_emod_of_nonneg (by omega)
              refine zw_ite (fun h91 => ?_) (fun h91 => ?_)
              · refine zw_b (by omega) ?_
                refine zw_some ?_
                refine zw_ite (fun h92 => ?_) (fun h92 => ?_)
                · refine zw_b (by omega) ?_
                  exact zw_some ⟨hIm0, hFm0, hRK54m0, ⟨by omega, by omega⟩⟩
                · exfalso; omega
              · refine zw_b (by omega) ?_
                refine zw_some ?_
                refine zw_ite (fun h93 => ?_) (fun h93 => ?_)
                · exfalso; omega
                · refine zw_b (by omega) ?_
                  exact zw_some ⟨hIm0, hFm0, hRK54m0, ⟨by omega, by omega⟩⟩
      · have b94 : 0 ≤ (zu_w32 ((zu_w32 (a1 * 64)) + a2)) ∧ (zu_w32 ((zu_w32 (a1 * 64)) + a2)) < 256 := by omega
        refine zw_if b94 ?_
        have b95 := zu_i32_rg 4 (m0 159 (zu_w32 ((zu_w32 (a1 * 64)) + a2))) (zu_i32 5 1 (m0 158 a1))
        have b96 : 0 ≤ (zu_w32 ((zu_w32 (a1 * 64)) + a2)) ∧ (zu_w32 ((zu_w32 (a1 * 64)) + a2)) < 256 := by omega
        refine zw_if b96 ?_
        generalize hmm97 : zu_up m0 159 (zu_w32 ((zu_w32 (a1 * 64)) + a2)) (zu_i32 4 (m0 159 (zu_w32 ((zu_w32 (a1 * 64)) + a2))) (zu_i32 5 1 (m0 158 a1))) = m97
        have hIm97 := zi_up hmm97 hIm0 zq_159 (zb_90 _) (by omega) (by omega)
        have hFm97 := zfr_up hmm97 hFm0 zq_159 rfl
        have hRK54m97 := zR_K54_fr (zdis_fr (zfr_up hmm97 (zfr_rf [(90, 0)] _) zq_159 rfl) rfl) hRK54m0
        refine zw_bd (zw_mono (zk_292 n hIm97 hc0 ⟨by omega, by omega⟩ ⟨by omega, by omega⟩) (fun v99 m98 hqm98 => ?_))
        obtain ⟨hIm98, hfm98, hvm98⟩ := hqm98
        have hFm98 := zfr_tr hFm97 hfm98 rfl
        have hRK54m98 := zR_K54_fr (zdis_fr hfm98 rfl) hRK54m97
        refine zw_bd (zw_mono (zk_250 n hIm98 zq_50 hRK54m98) (fun v101 m100 hqm100 => ?_))
        obtain ⟨hIm100, hfm100, hvm100⟩ := hqm100
        have hFm100 := zfr_tr hFm98 hfm100 rfl
        obtain ⟨hRK54m100, hvm100⟩ := hvm100
        refine zw_ite (fun h102 => ?_) (fun h102 => ?_)
        · have b103 : 0 ≤ (zu_w32 ((zu_w32 (a1 * 64)) + a2)) ∧ (zu_w32 ((zu_w32 (a1 * 64)) + a2)) < 256 := by omega
          refine zw_if b103 ?_
          have r104 : (-2147483648) ≤ (m100 160 (zu_w32 ((zu_w32 (a1 * 64)) + a2))) ∧ (m100 160 (zu_w32 ((zu_w32 (a1 * 64)) + a2))) ≤ 2147483647 := zi_rd hIm100 zq_160 (zb_91 _)
          have b105 := zu_i32_rg 3 (m100 160 (zu_w32 ((zu_w32 (a1 * 64)) + a2))) (zu_i32 5 1 (m0 158 a1))
          refine zw_ite (fun h106 => ?_) (fun h106 => ?_)
          · refine zw_b (by omega) ?_
            exact zw_some ⟨hIm100, hFm100, hRK54m100, ⟨by omega, by omega⟩⟩
          · refine zw_ite (fun h107 => ?_) (fun h107 => ?_)
            · exfalso; omega
            · have b108 : 0 ≤ a2 ∧ a2 < 16 := by omega
              refine zw_if b108 ?_
              have r109 : 0 ≤ (m100 ((89 + 1) + 5 + a2) 1) ∧ (m100 ((89 + 1) + 5 + a2) 1) ≤ 3 := zi_rd hIm100 (zc_65_e (zc_16_1 zq_89) b108) zb_17_1
              refine zw_bd (zw_eq (zr_217_0 n 89 a1 (m100 ((89 + 1) + 5 + a2) 1) m100) ?_)
              have r110 : 0 ≤ (m100 89 10) ∧ (m100 89 10) ≤ 3 := zi_rd hIm100 zq_89 zb_16_10
              refine zw_ite (fun h111 => ?_) (fun h111 => ?_)
              · refine zw_b (by omega) ?_
                refine zw_some ?_
                refine zw_ite (fun h112 => ?_) (fun h112 => ?_)
                · exfalso; omega
                · refine zw_b (by omega) ?_
                  exact zw_some ⟨hIm100, hFm100, hRK54m100, ⟨by omega, by omega⟩⟩
              · refine zw_nif (by omega) ?_
                have d113 : Int.tmod a1 4 = a1 % 4 := Int.tmod_eq_emod_of_nonneg (by omega)
                refine zw_ite (fun h114 => ?_) (fun h114 => ?_)
                · refine zw_b (by omega) ?_
                  refine zw_some ?_
                  refine zw_ite (fun h115 => ?_) (fun h115 => ?_)
                  · refine zw_b (by omega) ?_
                    exact zw_some ⟨hIm100, hFm100, hRK54m100, ⟨by omega, by omega⟩⟩
                  · exfalso; omega
                · refine zw_b (by omega) ?_
                  refine zw_some ?_
                  refine zw_ite (fun h116 => ?_) (fun h116 => ?_)
                  · exfalso; omega
                  · refine zw_b (by omega) ?_
                    exact zw_some ⟨hIm100, hFm100, hRK54m100, ⟨by omega, by omega⟩⟩
        · have b117 : 0 ≤ (zu_w32 ((zu_w32 (a1 * 64)) + a2)) ∧ (zu_w32 ((zu_w32 (a1 * 64)) + a2)) < 256 := by omega
          refine zw_if b117 ?_
          have r118 : (-2147483648) ≤ (m100 160 (zu_w32 ((zu_w32 (a1 * 64)) + a2))) ∧ (m100 160 (zu_w32 ((zu_w32 (a1 * 64)) + a2))) ≤ 2147483647 := zi_rd hIm100 zq_160 (zb_91 _)
          have b119 := zu_i32_rg 4 (m100 160 (zu_w32 ((zu_w32 (a1 * 64)) + a2))) (zu_i32 5 1 (m0 158 a1))
          have b120 : 0 ≤ (zu_w32 ((zu_w32 (a1 * 64)) + a2)) ∧ (zu_w32 ((zu_w32 (a1 * 64)) + a2)) < 256 := by omega
          refine zw_if b120 ?_
          generalize hmm121 : zu_up m100 160 (zu_w32 ((zu_w32 (a1 * 64)) + a2)) (zu_i32 4 (m100 160 (zu_w32 ((zu_w32 (a1 * 64)) + a2))) (zu_i32 5 1 (m0 158 a1))) = m121
          have hIm121 := zi_up hmm121 hIm100 zq_160 (zb_91 _) (by omega) (by omega)
          have hFm121 := zfr_up hmm121 hFm100 zq_160 rfl
          have hRK54m121 := zR_K54_fr (zdis_fr (zfr_up hmm121 (zfr_rf [(91, 0)] _) zq_160 rfl) rfl) hRK54m100
          have b122 : 0 ≤ (zu_w32 ((zu_w32 (a1 * 64)) + a2)) ∧ (zu_w32 ((zu_w32 (a1 * 64)) + a2)) < 256 := by omega
          refine zw_if b122 ?_
          have r123 : (-2147483648) ≤ (m121 160 (zu_w32 ((zu_w32 (a1 * 64)) + a2))) ∧ (m121 160 (zu_w32 ((zu_w32 (a1 * 64)) + a2))) ≤ 2147483647 := zi_rd hIm121 zq_160 (zb_91 _)
          have e124 : (m121 160 (zu_w32 ((zu_w32 (a1 * 64)) + a2))) = (zu_i32 4 (m100 160 (zu_w32 ((zu_w32 (a1 * 64)) + a2))) (zu_i32 5 1 (m0 158 a1))) := (zs_eq hmm121)
          have b125 := zu_i32_rg 3 (m121 160 (zu_w32 ((zu_w32 (a1 * 64)) + a2))) (zu_i32 5 1 (m0 158 a1))
          refine zw_ite (fun h126 => ?_) (fun h126 => ?_)
          · refine zw_b (by omega) ?_
            exact zw_some ⟨hIm121, hFm121, hRK54m121, ⟨by omega, by omega⟩⟩
          · refine zw_ite (fun h127 => ?_) (fun h127 => ?_)
            · exfalso; omega
            · have b128 : 0 ≤ a2 ∧ a2 < 16 := by omega
              refine zw_if b128 ?_
              have r129 : 0 ≤ (m121 ((89 + 1) + 5 + a2) 1) ∧ (m121 ((89 + 1) + 5 + a2) 1) ≤ 3 := zi_rd hIm121 (zc_65_e (zc_16_1 zq_89) b128) zb_17_1
              refine zw_bd (zw_eq (zr_217_0 n 89 a1 (m121 ((89 + 1) + 5 + a2) 1) m121) ?_)
              have r130 : 0 ≤ (m121 89 10) ∧ (m121 89 10) ≤ 3 := zi_rd hIm121 zq_89 zb_16_10
              refine zw_ite (fun h131 => ?_) (fun h131 => ?_)
              · refine zw_b (by omega) ?_
                refine zw_some ?_
                refine zw_ite (fun h132 => ?_) (fun h132 => ?_)
                · exfalso; omega
                · refine zw_b (by omega) ?_
                  exact zw_some ⟨hIm121, hFm121, hRK54m121, ⟨by omega, by omega⟩⟩
              · refine zw_nif (by omega) ?_
                have d133 : Int.tmod a1 4 = a1 % 4 := Int.tmod_eq_emod_of_nonneg (by omega)
                refine zw_ite (fun h134 => ?_) (fun h134 => ?_)
                · refine zw_b (by omega) ?_
                  refine zw_some ?_
                  refine zw_ite (fun h135 => ?_) (fun h135 => ?_)
                  · refine zw_b (by omega) ?_
                    exact zw_some ⟨hIm121, hFm121, hRK54m121, ⟨by omega, by omega⟩⟩
                  · exfalso; omega
                · refine zw_b (by omega) ?_
                  refine zw_some ?_
                  refine zw_ite (fun h136 => ?_) (fun h136 => ?_)
                  · exfalso; omega
                  · refine zw_b (by omega) ?_
                    exact zw_some ⟨hIm121, hFm121, hRK54m121, ⟨by omega, by omega⟩⟩
set_option maxHeartbeats 4000000 in
theorem zk_19 (n : Nat) {a0 : Int} {m0 : zu_m} (hIm0 : zi_I m0) (hc0 : zcls a0 = 2)     (hRK10m0 : zR_K10 m0) : zw (zu_call (zt_T n) 19 [(5, a0)] m0) (fun v m => zi_I m ∧ zfr [(2, 10), (11, 1), (11, 2), (11, 3), (11, 4), (11, 5), (11, 6), (12, 6), (12, 7), (13, 3), (13, 5), (13, 9), (13, 10), (13, 11), (13, 12), (14, 1), (14, 2), (14, 3), (14, 4), (15, 1), (15, 2), (15, 3), (15, 4), (15, 5), (15, 6), (15, 7), (15, 8), (16, 3), (16, 5), (16, 9), (16, 10), (16, 11), (16, 12), (17, 1), (17, 2), (17, 3), (17, 4), (18, 1), (18, 2), (18, 3), (18, 4), (18, 5), (18, 6), (18, 7), (18, 8), (22, 7), (22, 8), (23, 5), (49, 0), (50, 0), (51, 0), (52, 0), (53, 0), (54, 0), (55, 0), (56, 0), (57, 0), (58, 0), (59, 0), (62, 0), (63, 0), (67, 0), (68, 0)] m0 m ∧ zR_K10 m ∧ zR_K54 m ∧ True ∧ (0 ≤ m a0 9 ∧ m a0 9 ≤ 0)) := by
  have hFm0 : zfr [(2, 10), (11, 1), (11, 2), (11, 3), (11, 4), (11, 5), (11, 6), (12, 6), (12, 7), (13, 3), (13, 5), (13, 9), (13, 10), (13, 11), (13, 12), (14, 1), (14, 2), (14, 3), (14, 4), (15, 1), (15, 2), (15, 3), (15, 4), (15, 5), (15, 6), (15, 7), (15, 8), (16, 3), (16, 5), (16, 9), (16, 10), (16, 11), (16, 12), (17, 1), (17, 2), (17, 3), (17, 4), (18, 1), (18, 2), (18, 3), (18, 4), (18, 5), (18, 6), (18, 7), (18, 8), (22, 7), (22, 8), (23, 5), (49, 0), (50, 0), (51, 0), (52, 0), (53, 0), (54, 0), (55, 0), (56, 0), (57, 0), (58, 0), (59, 0), (62, 0), (63, 0), (67, 0), (68, 0)] m0 m0 := zfr_rf _ _
  refine zw_eq (zr_19_0 n a0 m0) ?_
  refine zw_bd (zw_mono (zk_20 n hIm0 zq_50 zq_6 hRK10m0) (fun v2 m1 hqm1 => ?_))
  obtain ⟨hIm1, hfm1, hvm1⟩ := hqm1
  have hFm1 := zfr_tr hFm0 hfm1 rfl
  obtain ⟨hRK10m1, hRK54m1, hvm1⟩ := hvm1
  refine zw_bd (zw_mono (zk_22_13_6 n hIm1 zq_63 zq_19) (fun v4 m3 hqm3 => ?_))
  obtain ⟨hIm3, hfm3, hvm3⟩ := hqm3
  have hFm3 := zfr_tr hFm1 hfm3 rfl
  have hRK10m3 := zR_K10_fr (zdis_fr hfm3 rfl) hRK10m1
  have hRK54m3 := zR_K54_fr (zdis_fr hfm3 rfl) hRK54m1
  refine zw_bd (zw_mono (zk_23 n hIm3 zq_50 zq_63 hRK54m3) (fun v6 m5 hqm5 => ?_))
  obtain ⟨hIm5, hfm5, hvm5⟩ := hqm5
  have hFm5 := zfr_tr hFm3 hfm5 rfl
  obtain ⟨hRK54m5, hvm5⟩ := hvm5
  have hRK10m5 := zR_K10_fr (zdis_fr hfm5 rfl) hRK10m3
  refine zw_bd (zw_mono (zk_22_16_13 n hIm5 zq_89 zq_63) (fun v8 m7 hqm7 => ?_))
  obtain ⟨hIm7, hfm7, hvm7⟩ := hqm7
  have hFm7 := zfr_tr hFm5 hfm7 rfl
  have hRK10m7 := zR_K10_fr (zdis_fr hfm7 rfl) hRK10m5
  have hRK54m7 := zR_K54_fr (zdis_fr hfm7 rfl) hRK54m5
  refine zw_b (by omega) ?_
  generalize hmm9 : zu_up m7 a0 9 0 = m9
  have hIm9 := zi_up hmm9 hIm7 hc0 zb_2_9 (by omega) (by omega)
  have hFm9 := zfr_up hmm9 hFm7 hc0 rfl
  have hRK10m9 := zR_K10_fr (zdis_fr (zfr_up hmm9 (zfr_rf [(2, 10)] _) hc0 rfl) rfl) hRK10m7
  have hRK54m9 := zR_K54_fr (zdis_fr (zfr_up hmm9 (zfr_rf [(2, 10)] _) hc0 rfl) rfl) hRK54m7
  refine zw_bd (zw_mono (zk_27 n hIm9 zq_141) (fun v11 m10 hqm10 => ?_))
  obtain ⟨hIm10, hfm10, hvm10⟩ := hqm10
  have hFm10 := zfr_tr hFm9 hfm10 rfl
  have hRK10m10 := zR_K10_fr (zdis_fr hfm10 rfl) hRK10m9
  have hRK54m10 := zR_K54_fr (zdis_fr hfm10 rfl) hRK54m9
  refine zw_bd (zw_mono (zk_28 n hIm10 zq_148) (fun v13 m12 hqm12 => ?_))
  obtain ⟨hIm12, hfm12, hvm12⟩ := hqm12
  have hFm12 := zfr_tr hFm10 hfm12 rfl
  have hRK10m12 := zR_K10_fr (zdis_fr hfm12 rfl) hRK10m10
  have hRK54m12 := zR_K54_fr (zdis_fr hfm12 rfl) hRK54m10
  have r14 : 0 ≤ (m12 a0 9) ∧ (m12 a0 9) ≤ 1 := zi_rd hIm12 hc0 zb_2_9
  have e15 : (m12 a0 9) = 0 := (Eq.trans (zfr_ap hfm12 hc0 rfl) (Eq.trans (zfr_ap hfm10 hc0 rfl) (zs_eq hmm9)))
  exact zw_some ⟨hIm12, hFm12, hRK10m12, hRK54m12, trivial, ⟨by omega, by omega⟩⟩
set_option maxHeartbeats 4000000 in
theorem zk_37 (n : Nat) {a0 a1 : Int} {m0 : zu_m} (hIm0 : zi_I m0) (hc0 : zcls a0 = 28) (ha1 : 0 ≤ a1 ∧ a1 ≤ 47)     : zw (zu_call (zt_T n) 37 [(40, a0), (0, a1)] m0) (fun v m => zi_I m ∧ zfr [(28, 54), (122, 0), (123, 0)] m0 m ∧ ((-2147483648) ≤ v ∧ v ≤ 2147483647)) := by
  have hFm0 : zfr [(28, 54), (122, 0), (123, 0)] m0 m0 := zfr_rf _ _
  refine zw_eq (zr_37_0 n a0 a1 m0) ?_
  refine zw_bd (zw_mono (zk_38 n hIm0 hc0 ⟨by omega, by omega⟩ ⟨by omega, by omega⟩ ⟨by omega, by omega⟩ ⟨by omega, by omega⟩ ⟨by omega, by omega⟩ ⟨by omega, by omega⟩) (fun v2 m1 hqm1 => ?_))
  obtain ⟨hIm1, hfm1, hvm1⟩ := hqm1
  have hFm1 := zfr_tr hFm0 hfm1 rfl
  have b3 : 0 ≤ a1 ∧ a1 < 96 := by omega
  refine zw_if b3 ?_
  have r4 : (-2147483648) ≤ (m1 195 a1) ∧ (m1 195 a1) ≤ 2147483647 := zi_rd hIm1 zq_195 (zb_104 _)
  have w5 := zu_w32_rg (1 + (m1 195 a1))
  refine zw_bd (zw_mono (zk_39 n hIm1 hc0 ⟨by omega, by omega⟩ ⟨by omega, by omega⟩ ⟨by omega, by omega⟩) (fun v7 m6 hqm6 => ?_))
  obtain ⟨hIm6, hfm6, hvm6⟩ := hqm6
  have hFm6 := zfr_tr hFm1 hfm6 rfl
  exact zw_some ⟨hIm6, hFm6, ⟨by omega, by omega⟩⟩
set_option maxHeartbeats 4000000 in
theorem zk_48 (n : Nat) {a0 a1 a2 : Int} {m0 : zu_m} (hIm0 : zi_I m0) (hc0 : zcls a0 = 2) (ha1 : (-2147483648) ≤ a1 ∧ a1 ≤ 2147483647) (ha2 : (-2147483648) ≤ a2 ∧ a2 ≤ 2147483647)    (hRK54m0 : zR_K54 m0) : zw (zu_call (zt_T n) 48 [(5, a0), (0, a1), (0, a2)] m0) (fun v m => zi_I m ∧ zfr [(56, 0), (59, 0)] m0 m ∧ zR_K54 m ∧ ((-1) ≤ v ∧ v ≤ 100)) := by
  have hFm0 : zfr [(56, 0), (59, 0)] m0 m0 := zfr_rf _ _
  refine zw_eq (zr_48_0 n a0 a1 a2 m0) ?_
  refine zw_bd (zw_eq (zr_211_0 n 89 a1 m0) ?_)
  refine zw_ite (fun h1 => ?_) (fun h1 => ?_)
  · refine zw_b (by omega) ?_
    refine zw_some ?_
    refine zw_ite (fun h2 => ?_) (fun h2 => ?_)
    · exact zw_some ⟨hIm0, hFm0, hRK54m0, ⟨by omega, by omega⟩⟩
    · exfalso; omega
  · have r3 : 0 ≤ (m0 89 4) ∧ (m0 89 4) ≤ 4 := zi_rd hIm0 zq_89 zb_16_4
    refine zw_ite (fun h4 => ?_) (fun h4 => ?_)
    · refine zw_b (by omega) ?_
      refine zw_some ?_
      refine zw_ite (fun h5 => ?_) (fun h5 => ?_)
      · exact zw_some ⟨hIm0, hFm0, hRK54m0, ⟨by omega, by omega⟩⟩
      · exfalso; omega
    · refine zw_b (by omega) ?_
      refine zw_some ?_
      refine zw_ite (fun h6 => ?_) (fun h6 => ?_)
      · exfalso; omega
      · refine zw_bd (zw_eq (zr_210_0 n 89 a2 m0) ?_)
        refine zw_ite (fun h7 => ?_) (fun h7 => ?_)
        · refine zw_b (by omega) ?_
          refine zw_some ?_
          refine zw_ite (fun h8 => ?_) (fun h8 => ?_)
          · exfalso; omega
          · exact zw_some ⟨hIm0, hFm0, hRK54m0, ⟨by omega, by omega⟩⟩
        · have r9 : 0 ≤ (m0 89 2) ∧ (m0 89 2) ≤ 16 := zi_rd hIm0 zq_89 zb_16_2
          refine zw_ite (fun h10 => ?_) (fun h10 => ?_)
          · refine zw_b (by omega) ?_
            refine zw_some ?_
            refine zw_ite (fun h11 => ?_) (fun h11 => ?_)
            · exfalso; omega
            · exact zw_some ⟨hIm0, hFm0, hRK54m0, ⟨by omega, by omega⟩⟩
          · refine zw_b (by omega) ?_
            refine zw_some ?_
            refine zw_ite (fun h12 => ?_) (fun h12 => ?_)
            · refine zw_bd (zw_mono (zk_225 n hIm0 zq_89 ⟨by omega, by omega⟩ ⟨by omega, by omega⟩ hRK54m0) (fun v14 m13 hqm13 => ?_))
              obtain ⟨hIm13, hfm13, hvm13⟩ := hqm13
              have hFm13 := zfr_tr hFm0 hfm13 rfl
              obtain ⟨hRK54m13, hvm13⟩ := hvm13
              exact zw_some ⟨hIm13, hFm13, hRK54m13, ⟨by omega, by omega⟩⟩
            · exfalso; omega
set_option maxHeartbeats 4000000 in
theorem zk_49 (n : Nat) {a0 a1 a2 a3 : Int} {m0 : zu_m} (hIm0 : zi_I m0) (hc0 : zcls a0 = 2) (ha1 : (-2147483648) ≤ a1 ∧ a1 ≤ 2147483647) (ha2 : (-2147483648) ≤ a2 ∧ a2 ≤ 2147483647) (ha3 : (-2147483648) ≤ a3 ∧ a3 ≤ 2147483647)    (hRK54m0 : zR_K54 m0) : zw (zu_call (zt_T n) 49 [(5, a0), (0, a1), (0, a2), (0, a3)] m0) (fun v m => zi_I m ∧ zfr [(56, 0), (59, 0)] m0 m ∧ zR_K54 m ∧ ((-9223372036854775808) ≤ v ∧ v ≤ 9223372036854775807)) := by
  have hFm0 : zfr [(56, 0), (59, 0)] m0 m0 := zfr_rf _ _
  refine zw_eq (zr_49_0 n a0 a1 a2 a3 m0) ?_
  refine zw_ite (fun h1 => ?_) (fun h1 => ?_)
  · refine zw_bd (zw_mono (zk_227 n hIm0 zq_89 ⟨by omega, by omega⟩ ⟨by omega, by omega⟩ ⟨by omega, by omega⟩ hRK54m0) (fun v3 m2 hqm2 => ?_))
    obtain ⟨hIm2, hfm2, hvm2⟩ := hqm2
    have hFm2 := zfr_tr hFm0 hfm2 rfl
    obtain ⟨hRK54m2, hvm2⟩ := hvm2
    exact zw_some ⟨hIm2, hFm2, hRK54m2, ⟨by omega, by omega⟩⟩
  · refine zw_ite (fun h4 => ?_) (fun h4 => ?_)
    · refine zw_bd (zw_mono (zk_227 n hIm0 zq_89 ⟨by omega, by omega⟩ ⟨by omega, by omega⟩ ⟨by omega, by omega⟩ hRK54m0) (fun v6 m5 hqm5 => ?_))
      obtain ⟨hIm5, hfm5, hvm5⟩ := hqm5
      have hFm5 := zfr_tr hFm0 hfm5 rfl
      obtain ⟨hRK54m5, hvm5⟩ := hvm5
      exact zw_some ⟨hIm5, hFm5, hRK54m5, ⟨by omega, by omega⟩⟩
    · refine zw_ite (fun h7 => ?_) (fun h7 => ?_)
      · refine zw_bd (zw_eq (zr_244_0 n 50 a2 m0) ?_)
        refine zw_ite (fun h8 => ?_) (fun h8 => ?_)
        · refine zw_b (by omega) ?_
          refine zw_some ?_
          refine zw_ite (fun h9 => ?_) (fun h9 => ?_)
          · exact zw_some ⟨hIm0, hFm0, hRK54m0, ⟨by omega, by omega⟩⟩
          · exfalso; omega
        · have r10 : 1 ≤ (m0 50 2) ∧ (m0 50 2) ≤ 48 := zi_rd hIm0 zq_50 zb_11_2
          refine zw_ite (fun h11 => ?_) (fun h11 => ?_)
          · refine zw_b (by omega) ?_
            refine zw_some ?_
            refine zw_ite (fun h12 => ?_) (fun h12 => ?_)
            · exact zw_some ⟨hIm0, hFm0, hRK54m0, ⟨by omega, by omega⟩⟩
            · exfalso; omega
          · refine zw_b (by omega) ?_
            refine zw_some ?_
            refine zw_ite (fun h13 => ?_) (fun h13 => ?_)
            · exfalso; omega
            · refine zw_bd (zw_mono (zk_24 n hIm0 zq_50 ⟨by omega, by omega⟩ hRK54m0) (fun v15 m14 hqm14 => ?_))
              obtain ⟨hIm14, hfm14, hvm14⟩ := hqm14
              have hFm14 := zfr_tr hFm0 hfm14 rfl
              obtain ⟨hRK54m14, hvm14⟩ := hvm14
              exact zw_some ⟨hIm14, hFm14, hRK54m14, ⟨by omega, by omega⟩⟩
      · refine zw_ite (fun h16 => ?_) (fun h16 => ?_)
        · refine zw_bd (zw_eq (zr_210_0 n 89 a2 m0) ?_)
          refine zw_ite (fun h17 => ?_) (fun h17 => ?_)
          · refine zw_b (by omega) ?_
            refine zw_some ?_
            refine zw_ite (fun h18 => ?_) (fun h18 => ?_)
            · exact zw_some ⟨hIm0, hFm0, hRK54m0, ⟨by omega, by omega⟩⟩
            · exfalso; omega
          · have r19 : 0 ≤ (m0 89 2) ∧ (m0 89 2) ≤ 16 := zi_rd hIm0 zq_89 zb_16_2
            refine zw_ite (fun h20 => ?_) (fun h20 => ?_)
            · refine zw_b (by omega) ?_
              refine zw_some ?_
              refine zw_ite (fun h21 => ?_) (fun h21 => ?_)
              · exact zw_some ⟨hIm0, hFm0, hRK54m0, ⟨by omega, by omega⟩⟩
              · exfalso; omega
            · refine zw_b (by omega) ?_
              refine zw_some ?_
              refine zw_ite (fun h22 => ?_) (fun h22 => ?_)
              · exfalso; omega
              · refine zw_bd (zw_mono (zk_229 n hIm0 zq_89 ⟨by omega, by omega⟩ hRK54m0) (fun v24 m23 hqm23 => ?_))
                obtain ⟨hIm23, hfm23, hvm23⟩ := hqm23
                have hFm23 := zfr_tr hFm0 hfm23 rfl
                obtain ⟨hRK54m23, hvm23⟩ := hvm23
                exact zw_some ⟨hIm23, hFm23, hRK54m23, ⟨by omega, by omega⟩⟩
        · exact zw_some ⟨hIm0, hFm0, hRK54m0, ⟨by omega, by omega⟩⟩
set_option maxHeartbeats 4000000 in
theorem zk_68 (n : Nat) {a0 : Int} {m0 : zu_m} (hIm0 : zi_I m0) (hc0 : zcls a0 = 2)     (hRK54m0 : zR_K54 m0) : zw (zu_call (zt_T n) 68 [(5, a0)] m0) (fun v m => zi_I m ∧ zfr [(56, 0), (59, 0)] m0 m ∧ zR_K54 m ∧ ((-2147483648) ≤ v ∧ v ≤ 2147483647)) := by
  have hFm0 : zfr [(56, 0), (59, 0)] m0 m0 := zfr_rf _ _
  refine zw_eq (zr_68_0 n a0 m0) ?_
  refine zw_bd (zw_mono (zk_230 n hIm0 zq_89 hRK54m0) (fun v2 m1 hqm1 => ?_))
  obtain ⟨hIm1, hfm1, hvm1⟩ := hqm1
  have hFm1 := zfr_tr hFm0 hfm1 rfl
  obtain ⟨hRK54m1, hvm1⟩ := hvm1
  exact zw_some ⟨hIm1, hFm1, hRK54m1, ⟨by omega, by omega⟩⟩
set_option maxHeartbeats 4000000 in
theorem zk_69 (n : Nat) {a0 a1 a2 : Int} {m0 : zu_m} (hIm0 : zi_I m0) (hc0 : zcls a0 = 2) (ha1 : (-2147483648) ≤ a1 ∧ a1 ≤ 2147483647) (ha2 : (-2147483648) ≤ a2 ∧ a2 ≤ 2147483647)    (hRK54m0 : zR_K54 m0) : zw (zu_call (zt_T n) 69 [(5, a0), (0, a1), (0, a2)] m0) (fun v m => zi_I m ∧ zfr [(56, 0), (59, 0)] m0 m ∧ zR_K54 m ∧ ((-1) ≤ v ∧ v ≤ 999)) := by
  have hFm0 : zfr [(56, 0), (59, 0)] m0 m0 := zfr_rf _ _
  refine zw_eq (zr_69_0 n a0 a1 a2 m0) ?_
  refine zw_bd (zw_eq (zr_211_0 n 89 a1 m0) ?_)
  refine zw_ite (fun h1 => ?_) (fun h1 => ?_)
  · refine zw_b (by omega) ?_
    refine zw_some ?_
    refine zw_ite (fun h2 => ?_) (fun h2 => ?_)
    · exact zw_some ⟨hIm0, hFm0, hRK54m0, ⟨by omega, by omega⟩⟩
    · exfalso; omega
  · have r3 : 0 ≤ (m0 89 4) ∧ (m0 89 4) ≤ 4 := zi_rd hIm0 zq_89 zb_16_4
    refine zw_ite (fun h4 => ?_) (fun h4 => ?_)
    · refine zw_b (by omega) ?_
      refine zw_some ?_
      refine zw_ite (fun h5 => ?_) (fun h5 => ?_)
      · exact zw_some ⟨hIm0, hFm0, hRK54m0, ⟨by omega, by omega⟩⟩
      · exfalso; omega
    · refine zw_b (by omega) ?_
      refine zw_some ?_
      refine zw_ite (fun h6 => ?_) (fun h6 => ?_)
      · exfalso; omega
      · refine zw_bd (zw_eq (zr_210_0 n 89 a2 m0) ?_)
        refine zw_ite (fun h7 => ?_) (fun h7 => ?_)
        · refine zw_b (by omega) ?_
          refine zw_some ?_
          refine zw_ite (fun h8 => ?_) (fun h8 => ?_)
          · exfalso; omega
          · exact zw_some ⟨hIm0, hFm0, hRK54m0, ⟨by omega, by omega⟩⟩
        · have r9 : 0 ≤ (m0 89 2) ∧ (m0 89 2) ≤ 16 := zi_rd hIm0 zq_89 zb_16_2
          refine zw_ite (fun h10 => ?_) (fun h10 => ?_)
          · refine zw_b (by omega) ?_
            refine zw_some ?_
            refine zw_ite (fun h11 => ?_) (fun h11 => ?_)
            · exfalso; omega
            · exact zw_some ⟨hIm0, hFm0, hRK54m0, ⟨by omega, by omega⟩⟩
          · refine zw_b (by omega) ?_
            refine zw_some ?_
            refine zw_ite (fun h12 => ?_) (fun h12 => ?_)
            · refine zw_bd (zw_mono (zk_226 n hIm0 zq_89 ⟨by omega, by omega⟩ ⟨by omega, by omega⟩ hRK54m0) (fun v14 m13 hqm13 => ?_))
              obtain ⟨hIm13, hfm13, hvm13⟩ := hqm13
              have hFm13 := zfr_tr hFm0 hfm13 rfl
              obtain ⟨hRK54m13, hvm13⟩ := hvm13
              exact zw_some ⟨hIm13, hFm13, hRK54m13, ⟨by omega, by omega⟩⟩
            · exfalso; omega

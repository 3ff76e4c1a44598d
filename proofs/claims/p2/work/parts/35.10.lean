set_option maxHeartbeats 4000000 in
theorem zk_105 (n : Nat) {a0 : Int} {m0 : zu_m} (hIm0 : zi_I m0) (hc0 : zcls a0 = 15)   (he0 : 1 ≤ m0 a0 8 ∧ m0 a0 8 ≤ 6)  : zw (zu_call (zt_T n) 105 [(40, a0)] m0) (fun v m => zi_I m ∧ zfr [(15, 5), (15, 6), (15, 8), (15, 9), (15, 10), (15, 11), (15, 12), (15, 18), (15, 19), (15, 20), (15, 21), (15, 22), (15, 23), (15, 24), (15, 43), (15, 46), (15, 47), (15, 48), (15, 49), (15, 50), (15, 51), (63, 0), (64, 0), (65, 0), (66, 0), (67, 0), (68, 0), (69, 0), (70, 0), (71, 0), (72, 0), (73, 0), (74, 0), (75, 0), (76, 0), (77, 0), (78, 0), (79, 0), (80, 0), (81, 0), (82, 0)] m0 m ∧ (0 ≤ v ∧ v ≤ 1)) := by
  have hFm0 : zfr [(15, 5), (15, 6), (15, 8), (15, 9), (15, 10), (15, 11), (15, 12), (15, 18), (15, 19), (15, 20), (15, 21), (15, 22), (15, 23), (15, 24), (15, 43), (15, 46), (15, 47), (15, 48), (15, 49), (15, 50), (15, 51), (63, 0), (64, 0), (65, 0), (66, 0), (67, 0), (68, 0), (69, 0), (70, 0), (71, 0), (72, 0), (73, 0), (74, 0), (75, 0), (76, 0), (77, 0), (78, 0), (79, 0), (80, 0), (81, 0), (82, 0)] m0 m0 := zfr_rf _ _
  refine zw_eq (zr_105_0 n a0 m0) ?_
  refine zw_ite (fun h1 => ?_) (fun h1 => ?_)
  · refine zw_bd (zw_eq (zr_85_0 n a0 1 m0) ?_)
    generalize hmm2 : zu_up m0 a0 4 1 = m2
    have hIm2 := zi_up hmm2 hIm0 hc0 zb_15_4 (by omega) (by omega)
    have hFm2 := zfr_up hmm2 hFm0 hc0 rfl
    have r3 : 0 ≤ (m2 a0 10) ∧ (m2 a0 10) ≤ 700 := zi_rd hIm2 hc0 zb_15_10
    generalize hmm4 : zu_up m2 a0 5 (m2 a0 10) = m4
    have hIm4 := zi_up hmm4 hIm2 hc0 zb_15_5 (by omega) (by omega)
    have hFm4 := zfr_up hmm4 hFm2 hc0 rfl
    refine zw_b (by omega) ?_
    refine zw_some ?_
    refine zw_b (by omega) ?_
    exact zw_some ⟨hIm4, hFm4, ⟨by omega, by omega⟩⟩
  · have r5 : (-2147483648) ≤ (m0 a0 9) ∧ (m0 a0 9) ≤ 2147483647 := zi_rd hIm0 hc0 zb_15_9
    refine zw_ite (fun h6 => ?_) (fun h6 => ?_)
    · refine zw_ite (fun h7 => ?_) (fun h7 => ?_)
      · refine zw_ite (fun h8 => ?_) (fun h8 => ?_)
        · refine zw_ite (fun h9 => ?_) (fun h9 => ?_)
          · refine zw_ite (fun h10 => ?_) (fun h10 => ?_)
            · refine zw_ite (fun h11 => ?_) (fun h11 => ?_)
              · refine zw_bd (zw_mono (zk_104 n hIm0 hc0 ⟨by omega, by omega⟩) (fun v13 m12 hqm12 => ?_))
                obtain ⟨hIm12, hfm12, hvm12⟩ := hqm12
                have hFm12 := zfr_tr hFm0 hfm12 rfl
                refine zw_ite (fun h14 => ?_) (fun h14 => ?_)
                · refine zw_bd (zw_eq (zr_93_0 n a0 59 m12) ?_)
                  have r15 : 0 ≤ (m12 a0 8) ∧ (m12 a0 8) ≤ 6 := zi_rd hIm12 hc0 zb_15_8
                  refine zw_ite (fun h16 => ?_) (fun h16 => ?_)
                  · refine zw_b (by omega) ?_
                    refine zw_some ?_
                    refine zw_ite (fun h17 => ?_) (fun h17 => ?_)
                    · exfalso; omega
                    · refine zw_bd (zw_eq (zr_85_0 n a0 1 m12) ?_)
                      generalize hmm18 : zu_up m12 a0 4 1 = m18
                      have hIm18 := zi_up hmm18 hIm12 hc0 zb_15_4 (by omega) (by omega)
                      have hFm18 := zfr_up hmm18 hFm12 hc0 rfl
                      have r19 : 0 ≤ (m18 a0 10) ∧ (m18 a0 10) ≤ 700 := zi_rd hIm18 hc0 zb_15_10
                      generalize hmm20 : zu_up m18 a0 5 (m18 a0 10) = m20
                      have hIm20 := zi_up hmm20 hIm18 hc0 zb_15_5 (by omega) (by omega)
                      have hFm20 := zfr_up hmm20 hFm18 hc0 rfl
                      refine zw_b (by omega) ?_
                      refine zw_some ?_
                      refine zw_b (by omega) ?_
                      exact zw_some ⟨hIm20, hFm20, ⟨by omega, by omega⟩⟩
                  · have r21 : (-2147483648) ≤ (m12 a0 9) ∧ (m12 a0 9) ≤ 2147483647 := zi_rd hIm12 hc0 zb_15_9
                    refine zw_ite (fun h22 => ?_) (fun h22 => ?_)
                    · refine zw_b (by omega) ?_
                      refine zw_some ?_
                      refine zw_ite (fun h23 => ?_) (fun h23 => ?_)
                      · exfalso; omega
                      · refine zw_bd (zw_eq (zr_85_0 n a0 1 m12) ?_)
                        generalize hmm24 : zu_up m12 a0 4 1 = m24
                        have hIm24 := zi_up hmm24 hIm12 hc0 zb_15_4 (by omega) (by omega)
                        have hFm24 := zfr_up hmm24 hFm12 hc0 rfl
                        have r25 : 0 ≤ (m24 a0 10) ∧ (m24 a0 10) ≤ 700 := zi_rd hIm24 hc0 zb_15_10
                        generalize hmm26 : zu_up m24 a0 5 (m24 a0 10) = m26
                        have hIm26 := zi_up hmm26 hIm24 hc0 zb_15_5 (by omega) (by omega)
                        have hFm26 := zfr_up hmm26 hFm24 hc0 rfl
                        refine zw_b (by omega) ?_
                        refine zw_some ?_
                        refine zw_b (by omega) ?_
                        exact zw_some ⟨hIm26, hFm26, ⟨by omega, by omega⟩⟩
                    · refine zw_b (by omega) ?_
                      refine zw_some ?_
                      refine zw_ite (fun h27 => ?_) (fun h27 => ?_)
                      · refine zw_bd (zw_mono (zk_89 n hIm12 hc0) (fun v29 m28 hqm28 => ?_))
                        obtain ⟨hIm28, hfm28, hvm28⟩ := hqm28
                        have hFm28 := zfr_tr hFm12 hfm28 rfl
                        refine zw_b (by omega) ?_
                        exact zw_some ⟨hIm28, hFm28, ⟨by omega, by omega⟩⟩
                      · exfalso; omega
                · refine zw_b (by omega) ?_
                  exact zw_some ⟨hIm12, hFm12, ⟨by omega, by omega⟩⟩
              · refine zw_bd (zw_mono (zk_103 n hIm0 hc0 ⟨by omega, by omega⟩ ⟨by omega, by omega⟩) (fun v31 m30 hqm30 => ?_))
                obtain ⟨hIm30, hfm30, hvm30⟩ := hqm30
                have hFm30 := zfr_tr hFm0 hfm30 rfl
                refine zw_ite (fun h32 => ?_) (fun h32 => ?_)
                · refine zw_bd (zw_eq (zr_93_0 n a0 59 m30) ?_)
                  have r33 : 0 ≤ (m30 a0 8) ∧ (m30 a0 8) ≤ 6 := zi_rd hIm30 hc0 zb_15_8
                  refine zw_ite (fun h34 => ?_) (fun h34 => ?_)
                  · refine zw_b (by omega) ?_
                    refine zw_some ?_
                    refine zw_ite (fun h35 => ?_) (fun h35 => ?_)
                    · exfalso; omega
                    · refine zw_bd (zw_eq (zr_85_0 n a0 1 m30) ?_)
                      generalize hmm36 : zu_up m30 a0 4 1 = m36
                      have hIm36 := zi_up hmm36 hIm30 hc0 zb_15_4 (by omega) (by omega)
                      have hFm36 := zfr_up hmm36 hFm30 hc0 rfl
                      have r37 : 0 ≤ (m36 a0 10) ∧ (m36 a0 10) ≤ 700 := zi_rd hIm36 hc0 zb_15_10
                      generalize hmm38 : zu_up m36 a0 5 (m36 a0 10) = m38
                      have hIm38 := zi_up hmm38 hIm36 hc0 zb_15_5 (by omega) (by omega)
                      have hFm38 := zfr_up hmm38 hFm36 hc0 rfl
                      refine zw_b (by omega) ?_
                      refine zw_some ?_
                      refine zw_b (by omega) ?_
                      exact zw_some ⟨hIm38, hFm38, ⟨by omega, by omega⟩⟩
                  · have r39 : (-2147483648) ≤ (m30 a0 9) ∧ (m30 a0 9) ≤ 2147483647 := zi_rd hIm30 hc0 zb_15_9
                    refine zw_ite (fun h40 => ?_) (fun h40 => ?_)
                    · refine zw_b (by omega) ?_
                      refine zw_some ?_
                      refine zw_ite (fun h41 => ?_) (fun h41 => ?_)
                      · exfalso; omega
                      · refine zw_bd (zw_eq (zr_85_0 n a0 1 m30) ?_)
                        generalize hmm42 : zu_up m30 a0 4 1 = m42
                        have hIm42 := zi_up hmm42 hIm30 hc0 zb_15_4 (by omega) (by omega)
                        have hFm42 := zfr_up hmm42 hFm30 hc0 rfl
                        have r43 : 0 ≤ (m42 a0 10) ∧ (m42 a0 10) ≤ 700 := zi_rd hIm42 hc0 zb_15_10
                        generalize hmm44 : zu_up m42 a0 5 (m42 a0 10) = m44
                        have hIm44 := zi_up hmm44 hIm42 hc0 zb_15_5 (by omega) (by omega)
                        have hFm44 := zfr_up hmm44 hFm42 hc0 rfl
                        refine zw_b (by omega) ?_
                        refine zw_some ?_
                        refine zw_b (by omega) ?_
                        exact zw_some ⟨hIm44, hFm44, ⟨by omega, by omega⟩⟩
                    · refine zw_b (by omega) ?_
                      refine zw_some ?_
                      refine zw_ite (fun h45 => ?_) (fun h45 => ?_)
                      · refine zw_bd (zw_mono (zk_89 n hIm30 hc0) (fun v47 m46 hqm46 => ?_))
                        obtain ⟨hIm46, hfm46, hvm46⟩ := hqm46
                        have hFm46 := zfr_tr hFm30 hfm46 rfl
                        refine zw_b (by omega) ?_
                        exact zw_some ⟨hIm46, hFm46, ⟨by omega, by omega⟩⟩
                      · exfalso; omega
                · refine zw_b (by omega) ?_
                  exact zw_some ⟨hIm30, hFm30, ⟨by omega, by omega⟩⟩
            · refine zw_bd (zw_mono (zk_102 n hIm0 hc0 ⟨by omega, by omega⟩ ⟨by omega, by omega⟩) (fun v49 m48 hqm48 => ?_))
              obtain ⟨hIm48, hfm48, hvm48⟩ := hqm48
              have hFm48 := zfr_tr hFm0 hfm48 rfl
              refine zw_ite (fun h50 => ?_) (fun h50 => ?_)
              · refine zw_bd (zw_eq (zr_93_0 n a0 59 m48) ?_)
                have r51 : 0 ≤ (m48 a0 8) ∧ (m48 a0 8) ≤ 6 := zi_rd hIm48 hc0 zb_15_8
                refine zw_ite (fun h52 => ?_) (fun h52 => ?_)
                · refine zw_b (by omega) ?_
                  refine zw_some ?_
                  refine zw_ite (fun h53 => ?_) (fun h53 => ?_)
                  · exfalso; omega
                  · refine zw_bd (zw_eq (zr_85_0 n a0 1 m48) ?_)
                    generalize hmm54 : zu_up m48 a0 4 1 = m54
                    have hIm54 := zi_up hmm54 hIm48 hc0 zb_15_4 (by omega) (by omega)
                    have hFm54 := zfr_up hmm54 hFm48 hc0 rfl
                    have r55 : 0 ≤ (m54 a0 10) ∧ (m54 a0 10) ≤ 700 := zi_rd hIm54 hc0 zb_15_10
                    generalize hmm56 : zu_up m54 a0 5 (m54 a0 10) = m56
                    have hIm56 := zi_up hmm56 hIm54 hc0 zb_15_5 (by omega) (by omega)
                    have hFm56 := zfr_up hmm56 hFm54 hc0 rfl
                    refine zw_b (by omega) ?_
                    refine zw_some ?_
                    refine zw_b (by omega) ?_
                    exact zw_some ⟨hIm56, hFm56, ⟨by omega, by omega⟩⟩
                · have r57 : (-2147483648) ≤ (m48 a0 9) ∧ (m48 a0 9) ≤ 2147483647 := zi_rd hIm48 hc0 zb_15_9
                  refine zw_ite (fun h58 => ?_) (fun h58 => ?_)
                  · refine zw_b (by omega) ?_
                    refine zw_some ?_
                    refine zw_ite (fun h59 => ?_) (fun h59 => ?_)
                    · exfalso; omega
                    · refine zw_bd (zw_eq (zr_85_0 n a0 1 m48) ?_)
                      generalize hmm60 : zu_up m48 a0 4 1 = m60
                      have hIm60 := zi_up hmm60 hIm48 hc0 zb_15_4 (by omega) (by omega)
                      have hFm60 := zfr_up hmm60 hFm48 hc0 rfl
                      have r61 : 0 ≤ (m60 a0 10) ∧ (m60 a0 10) ≤ 700 := zi_rd hIm60 hc0 zb_15_10
                      generalize hmm62 : zu_up m60 a0 5 (m60 a0 10) = m62
                      have hIm62 := zi_up hmm62 hIm60 hc0 zb_15_5 (by omega) (by omega)
                      have hFm62 := zfr_up hmm62 hFm60 hc0 rfl
                      refine zw_b (by omega) ?_
                      refine zw_some ?_
                      refine zw_b (by omega) ?_
                      exact zw_some ⟨hIm62, hFm62, ⟨by omega, by omega⟩⟩
                  · refine zw_b (by omega) ?_
                    refine zw_some ?_
                    refine zw_ite (fun h63 => ?_) (fun h63 => ?_)
                    · refine zw_bd (zw_mono (zk_89 n hIm48 hc0) (fun v65 m64 hqm64 => ?_))
                      obtain ⟨hIm64, hfm64, hvm64⟩ := hqm64
                      have hFm64 := zfr_tr hFm48 hfm64 rfl
                      refine zw_b (by omega) ?_
                      exact zw_some ⟨hIm64, hFm64, ⟨by omega, by omega⟩⟩
                    · exfalso; omega
              · refine zw_b (by omega) ?_
                exact zw_some ⟨hIm48, hFm48, ⟨by omega, by omega⟩⟩
          · refine zw_bd (zw_mono (zk_101 n hIm0 hc0 ⟨by omega, by omega⟩ ⟨by omega, by omega⟩) (fun v67 m66 hqm66 => ?_))
            obtain ⟨hIm66, hfm66, hvm66⟩ := hqm66
            have hFm66 := zfr_tr hFm0 hfm66 rfl
            refine zw_ite (fun h68 => ?_) (fun h68 => ?_)
            · refine zw_bd (zw_eq (zr_93_0 n a0 59 m66) ?_)
              have r69 : 0 ≤ (m66 a0 8) ∧ (m66 a0 8) ≤ 6 := zi_rd hIm66 hc0 zb_15_8
              refine zw_ite (fun h70 => ?_) (fun h70 => ?_)
              · refine zw_b (by omega) ?_
                refine zw_some ?_
                refine zw_ite (fun h71 => ?_) (fun h71 => ?_)
                · exfalso; omega
                · refine zw_bd (zw_eq (zr_85_0 n a0 1 m66) ?_)
                  generalize hmm72 : zu_up m66 a0 4 1 = m72
                  have hIm72 := zi_up hmm72 hIm66 hc0 zb_15_4 (by omega) (by omega)
                  have hFm72 := zfr_up hmm72 hFm66 hc0 rfl
                  have r73 : 0 ≤ (m72 a0 10) ∧ (m72 a0 10) ≤ 700 := zi_rd hIm72 hc0 zb_15_10
                  generalize hmm74 : zu_up m72 a0 5 (m72 a0 10) = m74
                  have hIm74 := zi_up hmm74 hIm72 hc0 zb_15_5 (by omega) (by omega)
                  have hFm74 := zfr_up hmm74 hFm72 hc0 rfl
                  refine zw_b (by omega) ?_
                  refine zw_some ?_
                  refine zw_b (by omega) ?_
                  exact zw_some ⟨hIm74, hFm74, ⟨by omega, by omega⟩⟩
              · have r75 : (-2147483648) ≤ (m66 a0 9) ∧ (m66 a0 9) ≤ 2147483647 := zi_rd hIm66 hc0 zb_15_9
                refine zw_ite (fun h76 => ?_) (fun h76 => ?_)
                · refine zw_b (by omega) ?_
                  refine zw_some ?_
                  refine zw_ite (fun h77 => ?_) (fun h77 => ?_)
                  · exfalso; omega
                  · refine zw_bd (zw_eq (zr_85_0 n a0 1 m66) ?_)
                    generalize hmm78 : zu_up m66 a0 4 1 = m78
                    have hIm78 := zi_up hmm78 hIm66 hc0 zb_15_4 (by omega) (by omega)
                    have hFm78 := zfr_up hmm78 hFm66 hc0 rfl
                    have r79 : 0 ≤ (m78 a0 10) ∧ (m78 a0 10) ≤ 700 := zi_rd hIm78 hc0 zb_15_10
                    generalize hmm80 : zu_up m78 a0 5 (m78 a0 10) = m80
                    have hIm80 := zi_up hmm80 hIm78 hc0 zb_15_5 (by omega) (by omega)
                    have hFm80 := zfr_up hmm80 hFm78 hc0 rfl
                    refine zw_b (by omega) ?_
                    refine zw_some ?_
                    refine zw_b (by omega) ?_
                    exact zw_some ⟨hIm80, hFm80, ⟨by omega, by omega⟩⟩
                · refine zw_b (by omega) ?_
                  refine zw_some ?_
                  refine zw_ite (fun h81 => ?_) (fun h81 => ?_)
                  · refine zw_bd (zw_mono (zk_89 n hIm66 hc0) (fun v83 m82 hqm82 => ?_))
                    obtain ⟨hIm82, hfm82, hvm82⟩ := hqm82
                    have hFm82 := zfr_tr hFm66 hfm82 rfl
                    refine zw_b (by omega) ?_
                    exact zw_some ⟨hIm82, hFm82, ⟨by omega, by omega⟩⟩
                  · exfalso; omega
            · refine zw_b (by omega) ?_
              exact zw_some ⟨hIm66, hFm66, ⟨by omega, by omega⟩⟩
        · have w84 := zu_w32_rg ((m0 a0 9) - 1)
          have w85 := zu_w32_rg ((zu_w32 ((m0 a0 9) - 1)) + 1)
          refine zw_bd (zw_mono (zk_100 n hIm0 hc0 ⟨by omega, by omega⟩ ⟨by omega, by omega⟩ ⟨by omega, by omega⟩) (fun v87 m86 hqm86 => ?_))
          obtain ⟨hIm86, hfm86, hvm86⟩ := hqm86
          have hFm86 := zfr_tr hFm0 hfm86 rfl
          refine zw_ite (fun h88 => ?_) (fun h88 => ?_)
          · refine zw_bd (zw_eq (zr_93_0 n a0 59 m86) ?_)
            have r89 : 0 ≤ (m86 a0 8) ∧ (m86 a0 8) ≤ 6 := zi_rd hIm86 hc0 zb_15_8
            refine zw_ite (fun h90 => ?_) (fun h90 => ?_)
            · refine zw_b (by omega) ?_
              refine zw_some ?_
              refine zw_ite (fun h91 => ?_) (fun h91 => ?_)
              · exfalso; omega
              · refine zw_bd (zw_eq (zr_85_0 n a0 1 m86) ?_)
                generalize hmm92 : zu_up m86 a0 4 1 = m92
                have hIm92 := zi_up hmm92 hIm86 hc0 zb_15_4 (by omega) (by omega)
                have hFm92 := zfr_up hmm92 hFm86 hc0 rfl
                have r93 : 0 ≤ (m92 a0 10) ∧ (m92 a0 10) ≤ 700 := zi_rd hIm92 hc0 zb_15_10
                generalize hmm94 : zu_up m92 a0 5 (m92 a0 10) = m94
                have hIm94 := zi_up hmm94 hIm92 hc0 zb_15_5 (by omega) (by omega)
                have hFm94 := zfr_up hmm94 hFm92 hc0 rfl
                refine zw_b (by omega) ?_
                refine zw_some ?_
                refine zw_b (by omega) ?_
                exact zw_some ⟨hIm94, hFm94, ⟨by omega, by omega⟩⟩
            · have r95 : (-2147483648) ≤ (m86 a0 9) ∧ (m86 a0 9) ≤ 2147483647 := zi_rd hIm86 hc0 zb_15_9
              refine zw_ite (fun h96 => ?_) (fun h96 => ?_)
              · refine zw_b (by omega) ?_
                refine zw_some ?_
                refine zw_ite (fun h97 => ?_) (fun h97 => ?_)
                · exfalso; omega
                · refine zw_bd (zw_eq (zr_85_0 n a0 1 m86) ?_)
                  generalize hmm98 : zu_up m86 a0 4 1 = m98
                  have hIm98 := zi_up hmm98 hIm86 hc0 zb_15_4 (by omega) (by omega)
                  have hFm98 := zfr_up hmm98 hFm86 hc0 rfl
                  have r99 : 0 ≤ (m98 a0 10) ∧ (m98 a0 10) ≤ 700 := zi_rd hIm98 hc0 zb_15_10
                  generalize hmm100 : zu_up m98 a0 5 (m98 a0 10) = m100
                  have hIm100 := zi_up hmm100 hIm98 hc0 zb_15_5 (by omega) (by omega)
                  have hFm100 := zfr_up hmm100 hFm98 hc0 rfl
                  refine zw_b (by omega) ?_
                  refine zw_some ?_
                  refine zw_b (by omega) ?_
                  exact zw_some ⟨hIm100, hFm100, ⟨by omega, by omega⟩⟩
              · refine zw_b (by omega) ?_
                refine zw_some ?_
                refine zw_ite (fun h101 => ?_) (fun h101 => ?_)
                · refine zw_bd (zw_mono (zk_89 n hIm86 hc0) (fun v103 m102 hqm102 => ?_))
                  obtain ⟨hIm102, hfm102, hvm102⟩ := hqm102
                  have hFm102 := zfr_tr hFm86 hfm102 rfl
                  refine zw_b (by omega) ?_
                  exact zw_some ⟨hIm102, hFm102, ⟨by omega, by omega⟩⟩
                · exfalso; omega
          · refine zw_b (by omega) ?_
            exact zw_some ⟨hIm86, hFm86, ⟨by omega, by omega⟩⟩
      · refine zw_bd (zw_mono (zk_99 n hIm0 hc0) (fun v105 m104 hqm104 => ?_))
        obtain ⟨hIm104, hfm104, hvm104⟩ := hqm104
        have hFm104 := zfr_tr hFm0 hfm104 rfl
        refine zw_ite (fun h106 => ?_) (fun h106 => ?_)
        · refine zw_bd (zw_eq (zr_93_0 n a0 59 m104) ?_)
          have r107 : 0 ≤ (m104 a0 8) ∧ (m104 a0 8) ≤ 6 := zi_rd hIm104 hc0 zb_15_8
          refine zw_ite (fun h108 => ?_) (fun h108 => ?_)
          · refine zw_b (by omega) ?_
            refine zw_some ?_
            refine zw_ite (fun h109 => ?_) (fun h109 => ?_)
            · exfalso; omega
            · refine zw_bd (zw_eq (zr_85_0 n a0 1 m104) ?_)
              generalize hmm110 : zu_up m104 a0 4 1 = m110
              have hIm110 := zi_up hmm110 hIm104 hc0 zb_15_4 (by omega) (by omega)
              have hFm110 := zfr_up hmm110 hFm104 hc0 rfl
              have r111 : 0 ≤ (m110 a0 10) ∧ (m110 a0 10) ≤ 700 := zi_rd hIm110 hc0 zb_15_10
              generalize hmm112 : zu_up m110 a0 5 (m110 a0 10) = m112
              have hIm112 := zi_up hmm112 hIm110 hc0 zb_15_5 (by omega) (by omega)
              have hFm112 := zfr_up hmm112 hFm110 hc0 rfl
              refine zw_b (by omega) ?_
              refine zw_some ?_
              refine zw_b (by omega) ?_
              exact zw_some ⟨hIm112, hFm112, ⟨by omega, by omega⟩⟩
          · have r113 : (-2147483648) ≤ (m104 a0 9) ∧ (m104 a0 9) ≤ 2147483647 := zi_rd hIm104 hc0 zb_15_9
            refine zw_ite (fun h114 => ?_) (fun h114 => ?_)
            · refine zw_b (by omega) ?_
              refine zw_some ?_
              refine zw_ite (fun h115 => ?_) (fun h115 => ?_)
              · exfalso; omega
              · refine zw_bd (zw_eq (zr_85_0 n a0 1 m104) ?_)
                generalize hmm116 : zu_up m104 a0 4 1 = m116
                have hIm116 := zi_up hmm116 hIm104 hc0 zb_15_4 (by omega) (by omega)
                have hFm116 := zfr_up hmm116 hFm104 hc0 rfl
                have r117 : 0 ≤ (m116 a0 10) ∧ (m116 a0 10) ≤ 700 := zi_rd hIm116 hc0 zb_15_10
                generalize hmm118 : zu_up m116 a0 5 (m116 a0 10) = m118
                have hIm118 := zi_up hmm118 hIm116 hc0 zb_15_5 (by omega) (by omega)
                have hFm118 := zfr_up hmm118 hFm116 hc0 rfl
                refine zw_b (by omega) ?_
                refine zw_some ?_
                refine zw_b (by omega) ?_
                exact zw_some ⟨hIm118, hFm118, ⟨by omega, by omega⟩⟩
            · refine zw_b (by omega) ?_
              refine zw_some ?_
              refine zw_ite (fun h119 => ?_) (fun h119 => ?_)
              · refine zw_bd (zw_mono (zk_89 n hIm104 hc0) (fun v121 m120 hqm120 => ?_))
                obtain ⟨hIm120, hfm120, hvm120⟩ := hqm120
                have hFm120 := zfr_tr hFm104 hfm120 rfl
                refine zw_b (by omega) ?_
                exact zw_some ⟨hIm120, hFm120, ⟨by omega, by omega⟩⟩
              · exfalso; omega
        · refine zw_b (by omega) ?_
          exact zw_some ⟨hIm104, hFm104, ⟨by omega, by omega⟩⟩
    · refine zw_bd (zw_eq (zr_85_0 n a0 1 m0) ?_)
      generalize hmm122 : zu_up m0 a0 4 1 = m122
      have hIm122 := zi_up hmm122 hIm0 hc0 zb_15_4 (by omega) (by omega)
      have hFm122 := zfr_up hmm122 hFm0 hc0 rfl
      have r123 : 0 ≤ (m122 a0 10) ∧ (m122 a0 10) ≤ 700 := zi_rd hIm122 hc0 zb_15_10
      generalize hmm124 : zu_up m122 a0 5 (m122 a0 10) = m124
      have hIm124 := zi_up hmm124 hIm122 hc0 zb_15_5 (by omega) (by omega)
      have hFm124 := zfr_up hmm124 hFm122 hc0 rfl
      refine zw_b (by omega) ?_
      refine zw_some ?_
      refine zw_b (by omega) ?_
      exact zw_some ⟨hIm124, hFm124, ⟨by omega, by omega⟩⟩
set_option maxHeartbeats 4000000 in
theorem zk_131 (n : Nat) {a0 a1 a2 a3 : Int} {m0 : zu_m} (hIm0 : zi_I m0) (hc0 : zcls a0 = 15) (ha1 : 0 ≤ a1 ∧ a1 ≤ 1) (ha2 : 0 ≤ a2 ∧ a2 ≤ 3) (ha3 : 0 ≤ a3 ∧ a3 ≤ 17)    : zw (zu_call (zt_T n) 131 [(40, a0), (0, a1), (0, a2), (0, a3)] m0) (fun v m => zi_I m ∧ zfr [(15, 54), (83, 0), (84, 0)] m0 m ∧ ((-2147483648) ≤ v ∧ v ≤ 2147483647)) := by
  have hFm0 : zfr [(15, 54), (83, 0), (84, 0)] m0 m0 := zfr_rf _ _
  refine zw_eq (zr_131_0 n a0 a1 a2 a3 m0) ?_
  have b1 : 0 ≤ a3 ∧ a3 < 36 := by omega
  refine zw_if b1 ?_
  have r2 : 0 ≤ (m0 198 a3) ∧ (m0 198 a3) ≤ 3 := zi_rd hIm0 zq_198 (zb_68 _)
  have b3 : 0 ≤ a3 ∧ a3 < 36 := by omega
  refine zw_if b3 ?_
  have r4 : 0 ≤ (m0 199 a3) ∧ (m0 199 a3) ≤ 9 := zi_rd hIm0 zq_199 (zb_69 _)
  have b5 : 0 ≤ a3 ∧ a3 < 36 := by omega
  refine zw_if b5 ?_
  have r6 : 0 ≤ (m0 197 a3) ∧ (m0 197 a3) ≤ 47 := zi_rd hIm0 zq_197 (zb_67 _)
  refine zw_bd (zw_mono (zk_130 n hIm0 hc0 ⟨by omega, by omega⟩ ⟨by omega, by omega⟩) (fun v8 m7 hqm7 => ?_))
  obtain ⟨hIm7, hfm7, hvm7⟩ := hqm7
  have hFm7 := zfr_tr hFm0 hfm7 rfl
  refine zw_bd (zw_mono (zk_129 n hIm7 hc0 ⟨by omega, by omega⟩ ⟨by omega, by omega⟩ ⟨by omega, by omega⟩ ⟨by omega, by omega⟩ ⟨by omega, by omega⟩) (fun v10 m9 hqm9 => ?_))
  obtain ⟨hIm9, hfm9, hvm9⟩ := hqm9
  have hFm9 := zfr_tr hFm7 hfm9 rfl
  exact zw_some ⟨hIm9, hFm9, ⟨by omega, by omega⟩⟩
set_option maxHeartbeats 4000000 in
theorem zk_138 (n : Nat) {a0 a1 a2 a3 : Int} {m0 : zu_m} (hIm0 : zi_I m0) (hc0 : zcls a0 = 15) (ha1 : 0 ≤ a1 ∧ a1 ≤ 3) (ha2 : 0 ≤ a2 ∧ a2 ≤ 47) (ha3 : (-2147483648) ≤ a3 ∧ a3 ≤ 2147483647)    : zw (zu_call (zt_T n) 138 [(40, a0), (0, a1), (0, a2), (0, a3)] m0) (fun v m => zi_I m ∧ zfr [(15, 54), (83, 0), (84, 0)] m0 m ∧ ((-2147483648) ≤ v ∧ v ≤ 2147483647)) := by
  have hFm0 : zfr [(15, 54), (83, 0), (84, 0)] m0 m0 := zfr_rf _ _
  refine zw_eq (zr_138_0 n a0 a1 a2 a3 m0) ?_
  refine zw_bd (zw_mono (zk_129 n hIm0 hc0 ⟨by omega, by omega⟩ ⟨by omega, by omega⟩ ⟨by omega, by omega⟩ ⟨by omega, by omega⟩ ⟨by omega, by omega⟩) (fun v2 m1 hqm1 => ?_))
  obtain ⟨hIm1, hfm1, hvm1⟩ := hqm1
  have hFm1 := zfr_tr hFm0 hfm1 rfl
  have w3 := zu_w32_rg (100 - v2)
  have w4 := zu_w64_rg (a3 * (zu_w32 (100 - v2)))
  refine zw_nif (by omega) ?_
  have w5 := zu_w64_rg (Int.tdiv (zu_w64 (a3 * (zu_w32 (100 - v2)))) 100)
  have w6 := zu_w32_rg (zu_w64 (Int.tdiv (zu_w64 (a3 * (zu_w32 (100 - v2)))) 100))
  exact zw_some ⟨hIm1, hFm1, ⟨by omega, by omega⟩⟩
set_option maxHeartbeats 4000000 in
theorem zl_145 (n : Nat) {a0 a1 a2 : Int} {m0 : zu_m} (hc0 : zcls a0 = 15)  : ∀ k : Nat, (∀ (x3 x4 : Int) (mh : zu_m), zi_I mh → zfr [(15, 3), (15, 54), (83, 0), (84, 0)] m0 mh → (0 ≤ a1 ∧ a1 ≤ 3) → (2 ≤ a2 ∧ a2 ≤ 2) → ((-2147483648) ≤ x3 ∧ x3 ≤ 2147483647) → (0 ≤ x4 ∧ x4 ≤ 16) → (1 ≤ mh a0 15 ∧ mh a0 15 ≤ 4) → (0 ≤ mh a0 2 ∧ mh a0 2 ≤ 0) → (16 - x4) * 1 + 17 < (k : Int) → zw (zu_ex (zt_T n) 145 69 [(40, a0), (0, a1), (0, a2), (0, x3), (0, x4)] [] mh) (fun v m => zi_I m ∧ zfr [(15, 3), (15, 54), (83, 0), (84, 0)] m0 m ∧ ((-2147483648) ≤ v ∧ v ≤ 2147483647) ∧ (0 ≤ m a0 2 ∧ m a0 2 ≤ 0))) ∧ (∀ (x3 x4 : Int) (mh : zu_m), zi_I mh → zfr [(15, 3), (15, 54), (83, 0), (84, 0)] m0 mh → (0 ≤ a1 ∧ a1 ≤ 3) → (4 ≤ a2 ∧ a2 ≤ 4) → ((-2147483648) ≤ x3 ∧ x3 ≤ 2147483647) → (0 ≤ x4 ∧ x4 ≤ 16) → (1 ≤ mh a0 15 ∧ mh a0 15 ≤ 4) → (0 ≤ mh a0 2 ∧ mh a0 2 ≤ 0) → (16 - x4) * 1 + 0 < (k : Int) → zw (zu_ex (zt_T n) 145 120 [(40, a0), (0, a1), (0, a2), (0, x3), (0, x4)] [] mh) (fun v m => zi_I m ∧ zfr [(15, 3), (15, 54), (83, 0), (84, 0)] m0 m ∧ ((-2147483648) ≤ v ∧ v ≤ 2147483647) ∧ (0 ≤ m a0 2 ∧ m a0 2 ≤ 0))) := by
  intro k
  induction k with
  | zero => exact ⟨fun x3 x4 mh hImh hFmh hba1 hba2 hbx3 hbx4 hg4 hg5 hM => by exfalso; omega, fun x3 x4 mh hImh hFmh hba1 hba2 hbx3 hbx4 hg4 hg5 hM => by exfalso; omega⟩
  | succ k ih =>
    refine ⟨?_, ?_⟩
    · intro x3 x4 mh hImh hFmh hba1 hba2 hbx3 hbx4 hg4 hg5 hM
      refine zw_eq (zr_145_69 n a0 a1 a2 x3 x4 mh) ?_
      have b1 : 0 ≤ (0 : Int) ∧ (0 : Int) < 2 := by omega
      refine zw_if b1 ?_
      have r2 : 0 ≤ (mh 216 0) ∧ (mh 216 0) ≤ 16 := zi_rdr (m := 2) (r0 := 0) (r1 := 0) hImh zq_216 (by omega) (by decide +kernel)
      refine zw_ite (fun h3 => ?_) (fun h3 => ?_)
      · exact zw_some ⟨hImh, hFmh, ⟨by omega, by omega⟩, ⟨by omega, by omega⟩⟩
      · have b4 : 0 ≤ x4 ∧ x4 < 36 := by omega
        refine zw_if b4 ?_
        have r5 : (-3) ≤ (mh 215 x4) ∧ (mh 215 x4) ≤ 3 := zi_rd hImh zq_215 (zb_85 _)
        refine zw_ite (fun h6 => ?_) (fun h6 => ?_)
        · have b7 := zu_i32_rg 4 x3 0
          have w8 := zu_w32_id (z := x4 + 1) (by omega) (by omega)
          have hM : (16 - (zu_w32 (x4 + 1))) * 1 + 17 < (k : Int) := by omega
          exact ih.1 (zu_i32 4 x3 0) (zu_w32 (x4 + 1)) mh hImh hFmh ⟨by omega, by omega⟩ ⟨by omega, by omega⟩ ⟨by omega, by omega⟩ ⟨by omega, by omega⟩ ⟨by omega, by omega⟩ ⟨by omega, by omega⟩ hM
        · have b9 := zu_i32_rg 5 1 x4
          have b10 := zu_i32_rg 4 x3 (zu_i32 5 1 x4)
          have w11 := zu_w32_id (z := x4 + 1) (by omega) (by omega)
          have hM : (16 - (zu_w32 (x4 + 1))) * 1 + 17 < (k : Int) := by omega
          exact ih.1 (zu_i32 4 x3 (zu_i32 5 1 x4)) (zu_w32 (x4 + 1)) mh hImh hFmh ⟨by omega, by omega⟩ ⟨by omega, by omega⟩ ⟨by omega, by omega⟩ ⟨by omega, by omega⟩ ⟨by omega, by omega⟩ ⟨by omega, by omega⟩ hM
    · intro x3 x4 mh hImh hFmh hba1 hba2 hbx3 hbx4 hg4 hg5 hM
      refine zw_eq (zr_145_120 n a0 a1 a2 x3 x4 mh) ?_
      have b12 : 0 ≤ (0 : Int) ∧ (0 : Int) < 2 := by omega
      refine zw_if b12 ?_
      have r13 : 0 ≤ (mh 216 0) ∧ (mh 216 0) ≤ 16 := zi_rdr (m := 2) (r0 := 0) (r1 := 0) hImh zq_216 (by omega) (by decide +kernel)
      refine zw_ite (fun h14 => ?_) (fun h14 => ?_)
      · exact zw_some ⟨hImh, hFmh, ⟨by omega, by omega⟩, ⟨by omega, by omega⟩⟩
      · have b15 : 0 ≤ x4 ∧ x4 < 36 := by omega
        refine zw_if b15 ?_
        have r16 : (-3) ≤ (mh 215 x4) ∧ (mh 215 x4) ≤ 3 := zi_rd hImh zq_215 (zb_85 _)
        refine zw_ite (fun h17 => ?_) (fun h17 => ?_)
        · have w18 := zu_w32_id (z := x3 + 0) (by omega) (by omega)
          have w19 := zu_w32_id (z := x4 + 1) (by omega) (by omega)
          have hM : (16 - (zu_w32 (x4 + 1))) * 1 + 0 < (k : Int) := by omega
          exact ih.2 (zu_w32 (x3 + 0)) (zu_w32 (x4 + 1)) mh hImh hFmh ⟨by omega, by omega⟩ ⟨by omega, by omega⟩ ⟨by omega, by omega⟩ ⟨by omega, by omega⟩ ⟨by omega, by omega⟩ ⟨by omega, by omega⟩ hM
        · refine zw_bd (zw_mono (zk_132 n hImh hc0 ⟨by omega, by omega⟩ ⟨by omega, by omega⟩) (fun v21 m20 hqm20 => ?_))
          obtain ⟨hIm20, hfm20, hvm20⟩ := hqm20
          have hFm20 := zfr_tr hFmh hfm20 rfl
          have w22 := zu_w32_rg (x3 + v21)
          have w23 := zu_w32_id (z := x4 + 1) (by omega) (by omega)
          have r24 : (-2147483648) ≤ (m20 a0 2) ∧ (m20 a0 2) ≤ 2147483647 := zi_rd hIm20 hc0 zb_15_2
          have e25 : (m20 a0 2) = (mh a0 2) := (zfr_ap hfm20 hc0 rfl)
          have r26 : 0 ≤ (m20 a0 15) ∧ (m20 a0 15) ≤ 4 := zi_rd hIm20 hc0 zb_15_15
          have e27 : (m20 a0 15) = (mh a0 15) := (zfr_ap hfm20 hc0 rfl)
          have hM : (16 - (zu_w32 (x4 + 1))) * 1 + 0 < (k : Int) := by omega
          exact ih.2 (zu_w32 (x3 + v21)) (zu_w32 (x4 + 1)) m20 hIm20 hFm20 ⟨by omega, by omega⟩ ⟨by omega, by omega⟩ ⟨by omega, by omega⟩ ⟨by omega, by omega⟩ ⟨by omega, by omega⟩ ⟨by omega, by omega⟩ hM
set_option maxHeartbeats 4000000 in
theorem zk_145 (n : Nat) {a0 a1 a2 : Int} {m0 : zu_m} (hIm0 : zi_I m0) (hc0 : zcls a0 = 15) (ha1 : (-2147483648) ≤ a1 ∧ a1 ≤ 2147483647) (ha2 : (-2147483648) ≤ a2 ∧ a2 ≤ 2147483647)    : zw (zu_call (zt_T n) 145 [(40, a0), (0, a1), (0, a2)] m0) (fun v m => zi_I m ∧ zfr [(15, 3), (15, 54), (83, 0), (84, 0)] m0 m ∧ ((-2147483648) ≤ v ∧ v ≤ 2147483647) ∧ (0 ≤ m a0 2 ∧ m a0 2 ≤ 0)) := by
  have hFm0 : zfr [(15, 3), (15, 54), (83, 0), (84, 0)] m0 m0 := zfr_rf _ _
  refine zw_eq (zr_145_0 n a0 a1 a2 m0) ?_
  generalize hmm28 : zu_up m0 a0 2 0 = m28
  have hIm28 := zi_up hmm28 hIm0 hc0 zb_15_2 (by omega) (by omega)
  have hFm28 := zfr_up hmm28 hFm0 hc0 rfl
  refine zw_bd (zw_eq (zr_125_0 n a0 a1 m28) ?_)
  refine zw_ite (fun h29 => ?_) (fun h29 => ?_)
  · refine zw_b (by omega) ?_
    refine zw_some ?_
    refine zw_ite (fun h30 => ?_) (fun h30 => ?_)
    · exfalso; omega
    · have r31 : (-2147483648) ≤ (m28 a0 2) ∧ (m28 a0 2) ≤ 2147483647 := zi_rd hIm28 hc0 zb_15_2
      have e32 : (m28 a0 2) = 0 := (zs_eq hmm28)
      exact zw_some ⟨hIm28, hFm28, ⟨by omega, by omega⟩, ⟨by omega, by omega⟩⟩
  · have r33 : 0 ≤ (m28 a0 15) ∧ (m28 a0 15) ≤ 4 := zi_rd hIm28 hc0 zb_15_15
    refine zw_ite (fun h34 => ?_) (fun h34 => ?_)
    · refine zw_b (by omega) ?_
      refine zw_some ?_
      refine zw_ite (fun h35 => ?_) (fun h35 => ?_)
      · exfalso; omega
      · have r36 : (-2147483648) ≤ (m28 a0 2) ∧ (m28 a0 2) ≤ 2147483647 := zi_rd hIm28 hc0 zb_15_2
        have e37 : (m28 a0 2) = 0 := (zs_eq hmm28)
        exact zw_some ⟨hIm28, hFm28, ⟨by omega, by omega⟩, ⟨by omega, by omega⟩⟩
    · refine zw_b (by omega) ?_
      refine zw_some ?_
      refine zw_ite (fun h38 => ?_) (fun h38 => ?_)
      · refine zw_ite (fun h39 => ?_) (fun h39 => ?_)
        · have b40 : 0 ≤ a1 ∧ a1 < 8 := by omega
          refine zw_if b40 ?_
          have r41 : 0 ≤ (m28 217 a1) ∧ (m28 217 a1) ≤ 47 := zi_rd hIm28 zq_217 (zb_87 _)
          have r42 : (-2147483648) ≤ (m28 a0 2) ∧ (m28 a0 2) ≤ 2147483647 := zi_rd hIm28 hc0 zb_15_2
          have e43 : (m28 a0 2) = 0 := (zs_eq hmm28)
          exact zw_some ⟨hIm28, hFm28, ⟨by omega, by omega⟩, ⟨by omega, by omega⟩⟩
        · refine zw_ite (fun h44 => ?_) (fun h44 => ?_)
          · refine zw_bd (zw_mono (zk_130 n hIm28 hc0 ⟨by omega, by omega⟩ ⟨by omega, by omega⟩) (fun v46 m45 hqm45 => ?_))
            obtain ⟨hIm45, hfm45, hvm45⟩ := hqm45
            have hFm45 := zfr_tr hFm28 hfm45 rfl
            have r47 : (-2147483648) ≤ (m45 a0 2) ∧ (m45 a0 2) ≤ 2147483647 := zi_rd hIm45 hc0 zb_15_2
            have e48 : (m45 a0 2) = 0 := (Eq.trans (zfr_ap hfm45 hc0 rfl) (zs_eq hmm28))
            exact zw_some ⟨hIm45, hFm45, ⟨by omega, by omega⟩, ⟨by omega, by omega⟩⟩
          · refine zw_ite (fun h49 => ?_) (fun h49 => ?_)
            · have r50 : (-2147483648) ≤ (m28 a0 2) ∧ (m28 a0 2) ≤ 2147483647 := zi_rd hIm28 hc0 zb_15_2
              have e51 : (m28 a0 2) = 0 := (zs_eq hmm28)
              have hM : (16 - 0) * 1 + 17 < ((34 : Nat) : Int) := by omega
              exact (zl_145 n (m0 := m0) hc0 34).1 0 0 m28 hIm28 hFm28 ⟨by omega, by omega⟩ ⟨by omega, by omega⟩ ⟨by omega, by omega⟩ ⟨by omega, by omega⟩ ⟨by omega, by omega⟩ ⟨by omega, by omega⟩ hM
            · refine zw_ite (fun h52 => ?_) (fun h52 => ?_)
              · have b53 : 0 ≤ a1 ∧ a1 < 4 := by omega
                refine zw_if b53 ?_
                have r54 : (-2147483648) ≤ (m28 219 a1) ∧ (m28 219 a1) ≤ 2147483647 := zi_rd hIm28 zq_219 (zb_89 _)
                have r55 : (-2147483648) ≤ (m28 a0 2) ∧ (m28 a0 2) ≤ 2147483647 := zi_rd hIm28 hc0 zb_15_2
                have e56 : (m28 a0 2) = 0 := (zs_eq hmm28)
                exact zw_some ⟨hIm28, hFm28, ⟨by omega, by omega⟩, ⟨by omega, by omega⟩⟩
              · refine zw_ite (fun h57 => ?_) (fun h57 => ?_)
                · have r58 : (-2147483648) ≤ (m28 a0 2) ∧ (m28 a0 2) ≤ 2147483647 := zi_rd hIm28 hc0 zb_15_2
                  have e59 : (m28 a0 2) = 0 := (zs_eq hmm28)
                  have hM : (16 - 0) * 1 + 0 < ((34 : Nat) : Int) := by omega
                  exact (zl_145 n (m0 := m0) hc0 34).2 0 0 m28 hIm28 hFm28 ⟨by omega, by omega⟩ ⟨by omega, by omega⟩ ⟨by omega, by omega⟩ ⟨by omega, by omega⟩ ⟨by omega, by omega⟩ ⟨by omega, by omega⟩ hM
                · have r60 : (-2147483648) ≤ (m28 a0 2) ∧ (m28 a0 2) ≤ 2147483647 := zi_rd hIm28 hc0 zb_15_2
                  have e61 : (m28 a0 2) = 0 := (zs_eq hmm28)
                  exact zw_some ⟨hIm28, hFm28, ⟨by omega, by omega⟩, ⟨by omega, by omega⟩⟩
      · exfalso; omega
set_option maxHeartbeats 4000000 in
theorem zk_172 (n : Nat) {a0 a1 : Int} {m0 : zu_m} (hIm0 : zi_I m0) (hc0 : zcls a0 = 15) (ha1 : (-2147483648) ≤ a1 ∧ a1 ≤ 2147483647)    : zw (zu_call (zt_T n) 172 [(40, a0), (0, a1)] m0) (fun v m => zi_I m ∧ zfr [(15, 3), (15, 54), (83, 0), (84, 0)] m0 m ∧ ((-9223372036854775808) ≤ v ∧ v ≤ 9223372036854775807) ∧ (0 ≤ m a0 2 ∧ m a0 2 ≤ 0)) := by
  sorry
set_option maxHeartbeats 4000000 in
theorem zl_173 (n : Nat) {a0 : Int} {m0 : zu_m} (hc0 : zcls a0 = 15)  : ∀ k : Nat, (∀ (x1 x2 : Int) (mh : zu_m), zi_I mh → zfr [(15, 3), (15, 54), (83, 0), (84, 0)] m0 mh → ((-2147483648) ≤ x1 ∧ x1 ≤ 2147483647) → (0 ≤ x2 ∧ x2 ≤ 16) → (0 ≤ mh a0 2 ∧ mh a0 2 ≤ 0) → (16 - x2) * 1 + 0 < (k : Int) → zw (zu_ex (zt_T n) 173 9 [(40, a0), (0, x1), (0, x2)] [] mh) (fun v m => zi_I m ∧ zfr [(15, 3), (15, 54), (83, 0), (84, 0)] m0 m ∧ ((-2147483648) ≤ v ∧ v ≤ 2147483647) ∧ (0 ≤ m a0 2 ∧ m a0 2 ≤ 0))) := by
  intro k
  induction k with
  | zero => exact fun x1 x2 mh hImh hFmh hbx1 hbx2 hg2 hM => by exfalso; omega
  | succ k ih =>
    intro x1 x2 mh hImh hFmh hbx1 hbx2 hg2 hM
    refine zw_eq (zr_173_9 n a0 x1 x2 mh) ?_
    have b1 : 0 ≤ (0 : Int) ∧ (0 : Int) < 2 := by omega
    refine zw_if b1 ?_
    have r2 : 0 ≤ (mh 216 0) ∧ (mh 216 0) ≤ 16 := zi_rdr (m := 2) (r0 := 0) (r1 := 0) hImh zq_216 (by omega) (by decide +kernel)
    refine zw_ite (fun h3 => ?_) (fun h3 => ?_)
    · exact zw_some ⟨hImh, hFmh, ⟨by omega, by omega⟩, ⟨by omega, by omega⟩⟩
    · have b4 : 0 ≤ x2 ∧ x2 < 36 := by omega
      refine zw_if b4 ?_
      have r5 : (-3) ≤ (mh 215 x2) ∧ (mh 215 x2) ≤ 3 := zi_rd hImh zq_215 (zb_85 _)
      refine zw_ite (fun h6 => ?_) (fun h6 => ?_)
      · have w7 := zu_w32_id (z := x1 + 0) (by omega) (by omega)
        have w8 := zu_w32_id (z := x2 + 1) (by omega) (by omega)
        have hM : (16 - (zu_w32 (x2 + 1))) * 1 + 0 < (k : Int) := by omega
        exact ih (zu_w32 (x1 + 0)) (zu_w32 (x2 + 1)) mh hImh hFmh ⟨by omega, by omega⟩ ⟨by omega, by omega⟩ ⟨by omega, by omega⟩ hM
      · refine zw_bd (zw_mono (zk_133 n hImh hc0 ⟨by omega, by omega⟩) (fun v10 m9 hqm9 => ?_))
        obtain ⟨hIm9, hfm9, hvm9⟩ := hqm9
        have hFm9 := zfr_tr hFmh hfm9 rfl
        have w11 := zu_w32_rg (100 - v10)
        have w12 := zu_w32_rg (x1 + (zu_w32 (100 - v10)))
        have w13 := zu_w32_id (z := x2 + 1) (by omega) (by omega)
        have r14 : (-2147483648) ≤ (m9 a0 2) ∧ (m9 a0 2) ≤ 2147483647 := zi_rd hIm9 hc0 zb_15_2
        have e15 : (m9 a0 2) = (mh a0 2) := (zfr_ap hfm9 hc0 rfl)
        have hM : (16 - (zu_w32 (x2 + 1))) * 1 + 0 < (k : Int) := by omega
        exact ih (zu_w32 (x1 + (zu_w32 (100 - v10)))) (zu_w32 (x2 + 1)) m9 hIm9 hFm9 ⟨by omega, by omega⟩ ⟨by omega, by omega⟩ ⟨by omega, by omega⟩ hM
set_option maxHeartbeats 4000000 in
theorem zk_173 (n : Nat) {a0 : Int} {m0 : zu_m} (hIm0 : zi_I m0) (hc0 : zcls a0 = 15)     : zw (zu_call (zt_T n) 173 [(40, a0)] m0) (fun v m => zi_I m ∧ zfr [(15, 3), (15, 54), (83, 0), (84, 0)] m0 m ∧ ((-2147483648) ≤ v ∧ v ≤ 2147483647) ∧ (0 ≤ m a0 2 ∧ m a0 2 ≤ 0)) := by
  have hFm0 : zfr [(15, 3), (15, 54), (83, 0), (84, 0)] m0 m0 := zfr_rf _ _
  refine zw_eq (zr_173_0 n a0 m0) ?_
  generalize hmm16 : zu_up m0 a0 2 0 = m16
  have hIm16 := zi_up hmm16 hIm0 hc0 zb_15_2 (by omega) (by omega)
  have hFm16 := zfr_up hmm16 hFm0 hc0 rfl
  have r17 : (-2147483648) ≤ (m16 a0 2) ∧ (m16 a0 2) ≤ 2147483647 := zi_rd hIm16 hc0 zb_15_2
  have e18 : (m16 a0 2) = 0 := (zs_eq hmm16)
  have hM : (16 - 0) * 1 + 0 < ((17 : Nat) : Int) := by omega
  exact (zl_173 n (m0 := m0) hc0 17) 0 0 m16 hIm16 hFm16 ⟨by omega, by omega⟩ ⟨by omega, by omega⟩ ⟨by omega, by omega⟩ hM
set_option maxHeartbeats 4000000 in
theorem zk_174 (n : Nat) {a0 a1 a2 : Int} {m0 : zu_m} (hIm0 : zi_I m0) (hc0 : zcls a0 = 15) (ha1 : (-2147483648) ≤ a1 ∧ a1 ≤ 2147483647) (ha2 : (-2147483648) ≤ a2 ∧ a2 ≤ 2147483647)    : zw (zu_call (zt_T n) 174 [(40, a0), (0, a1), (0, a2)] m0) (fun v m => zi_I m ∧ zfr [(15, 3), (15, 54), (83, 0), (84, 0)] m0 m ∧ ((-2147483648) ≤ v ∧ v ≤ 2147483647) ∧ (0 ≤ m a0 2 ∧ m a0 2 ≤ 0)) := by
  have hFm0 : zfr [(15, 3), (15, 54), (83, 0), (84, 0)] m0 m0 := zfr_rf _ _
  refine zw_eq (zr_174_0 n a0 a1 a2 m0) ?_
  generalize hmm1 : zu_up m0 a0 2 0 = m1
  have hIm1 := zi_up hmm1 hIm0 hc0 zb_15_2 (by omega) (by omega)
  have hFm1 := zfr_up hmm1 hFm0 hc0 rfl
  refine zw_bd (zw_eq (zr_125_0 n a0 a1 m1) ?_)
  refine zw_ite (fun h2 => ?_) (fun h2 => ?_)
  · refine zw_b (by omega) ?_
    refine zw_some ?_
    refine zw_ite (fun h3 => ?_) (fun h3 => ?_)
    · have r4 : (-2147483648) ≤ (m1 a0 2) ∧ (m1 a0 2) ≤ 2147483647 := zi_rd hIm1 hc0 zb_15_2
      have e5 : (m1 a0 2) = 0 := (zs_eq hmm1)
      exact zw_some ⟨hIm1, hFm1, ⟨by omega, by omega⟩, ⟨by omega, by omega⟩⟩
    · exfalso; omega
  · have r6 : 0 ≤ (m1 a0 15) ∧ (m1 a0 15) ≤ 4 := zi_rd hIm1 hc0 zb_15_15
    refine zw_ite (fun h7 => ?_) (fun h7 => ?_)
    · refine zw_b (by omega) ?_
      refine zw_some ?_
      refine zw_ite (fun h8 => ?_) (fun h8 => ?_)
      · have r9 : (-2147483648) ≤ (m1 a0 2) ∧ (m1 a0 2) ≤ 2147483647 := zi_rd hIm1 hc0 zb_15_2
        have e10 : (m1 a0 2) = 0 := (zs_eq hmm1)
        exact zw_some ⟨hIm1, hFm1, ⟨by omega, by omega⟩, ⟨by omega, by omega⟩⟩
      · exfalso; omega
    · refine zw_b (by omega) ?_
      refine zw_some ?_
      refine zw_ite (fun h11 => ?_) (fun h11 => ?_)
      · exfalso; omega
      · refine zw_bd (zw_eq (zr_124_0 n a0 a2 m1) ?_)
        refine zw_ite (fun h12 => ?_) (fun h12 => ?_)
        · refine zw_b (by omega) ?_
          refine zw_some ?_
          refine zw_ite (fun h13 => ?_) (fun h13 => ?_)
          · have r14 : (-2147483648) ≤ (m1 a0 2) ∧ (m1 a0 2) ≤ 2147483647 := zi_rd hIm1 hc0 zb_15_2
            have e15 : (m1 a0 2) = 0 := (zs_eq hmm1)
            exact zw_some ⟨hIm1, hFm1, ⟨by omega, by omega⟩, ⟨by omega, by omega⟩⟩
          · exfalso; omega
        · have b16 : 0 ≤ (0 : Int) ∧ (0 : Int) < 2 := by omega
          refine zw_if b16 ?_
          have r17 : 0 ≤ (m1 216 0) ∧ (m1 216 0) ≤ 16 := zi_rdr (m := 2) (r0 := 0) (r1 := 0) hIm1 zq_216 (by omega) (by decide +kernel)
          refine zw_ite (fun h18 => ?_) (fun h18 => ?_)
          · refine zw_b (by omega) ?_
            refine zw_some ?_
            refine zw_ite (fun h19 => ?_) (fun h19 => ?_)
            · have r20 : (-2147483648) ≤ (m1 a0 2) ∧ (m1 a0 2) ≤ 2147483647 := zi_rd hIm1 hc0 zb_15_2
              have e21 : (m1 a0 2) = 0 := (zs_eq hmm1)
              exact zw_some ⟨hIm1, hFm1, ⟨by omega, by omega⟩, ⟨by omega, by omega⟩⟩
            · exfalso; omega
          · refine zw_b (by omega) ?_
            refine zw_some ?_
            refine zw_ite (fun h22 => ?_) (fun h22 => ?_)
            · exfalso; omega
            · refine zw_bd (zw_mono (zk_132 n hIm1 hc0 ⟨by omega, by omega⟩ ⟨by omega, by omega⟩) (fun v24 m23 hqm23 => ?_))
              obtain ⟨hIm23, hfm23, hvm23⟩ := hqm23
              have hFm23 := zfr_tr hFm1 hfm23 rfl
              have r25 : (-2147483648) ≤ (m23 a0 2) ∧ (m23 a0 2) ≤ 2147483647 := zi_rd hIm23 hc0 zb_15_2
              have e26 : (m23 a0 2) = 0 := (Eq.trans (zfr_ap hfm23 hc0 rfl) (zs_eq hmm1))
              exact zw_some ⟨hIm23, hFm23, ⟨by omega, by omega⟩, ⟨by omega, by omega⟩⟩
set_option maxHeartbeats 4000000 in
theorem zk_175 (n : Nat) {a0 a1 a2 a3 a4 : Int} {m0 : zu_m} (hIm0 : zi_I m0) (hc0 : zcls a0 = 15) (ha1 : 0 ≤ a1 ∧ a1 ≤ 3) (ha2 : 1 ≤ a2 ∧ a2 ≤ 3) (ha3 : 0 ≤ a3 ∧ a3 ≤ 15) (ha4 : 0 ≤ a4 ∧ a4 ≤ 15)    : zw (zu_call (zt_T n) 175 [(40, a0), (0, a1), (0, a2), (0, a3), (0, a4)] m0) (fun v m => zi_I m ∧ zfr [(15, 54), (83, 0), (84, 0)] m0 m ∧ (0 ≤ v ∧ v ≤ 1)) := by
  have hFm0 : zfr [(15, 54), (83, 0), (84, 0)] m0 m0 := zfr_rf _ _
  refine zw_eq (zr_175_0 n a0 a1 a2 a3 a4 m0) ?_
  refine zw_bd (zw_mono (zk_132 n hIm0 hc0 ⟨by omega, by omega⟩ ⟨by omega, by omega⟩) (fun v2 m1 hqm1 => ?_))
  obtain ⟨hIm1, hfm1, hvm1⟩ := hqm1
  have hFm1 := zfr_tr hFm0 hfm1 rfl
  refine zw_bd (zw_mono (zk_132 n hIm1 hc0 ⟨by omega, by omega⟩ ⟨by omega, by omega⟩) (fun v4 m3 hqm3 => ?_))
  obtain ⟨hIm3, hfm3, hvm3⟩ := hqm3
  have hFm3 := zfr_tr hFm1 hfm3 rfl
  refine zw_ite (fun h5 => ?_) (fun h5 => ?_)
  · refine zw_b (by omega) ?_
    exact zw_some ⟨hIm3, hFm3, ⟨by omega, by omega⟩⟩
  · refine zw_bd (zw_mono (zk_132 n hIm3 hc0 ⟨by omega, by omega⟩ ⟨by omega, by omega⟩) (fun v7 m6 hqm6 => ?_))
    obtain ⟨hIm6, hfm6, hvm6⟩ := hqm6
    have hFm6 := zfr_tr hFm3 hfm6 rfl
    refine zw_bd (zw_mono (zk_132 n hIm6 hc0 ⟨by omega, by omega⟩ ⟨by omega, by omega⟩) (fun v9 m8 hqm8 => ?_))
    obtain ⟨hIm8, hfm8, hvm8⟩ := hqm8
    have hFm8 := zfr_tr hFm6 hfm8 rfl
    refine zw_ite (fun h10 => ?_) (fun h10 => ?_)
    · refine zw_b (by omega) ?_
      exact zw_some ⟨hIm8, hFm8, ⟨by omega, by omega⟩⟩
    · refine zw_b (by omega) ?_
      exact zw_some ⟨hIm8, hFm8, ⟨by omega, by omega⟩⟩
set_option maxHeartbeats 4000000 in
theorem zl_177 (n : Nat) {a0 a1 : Int} {m0 : zu_m} (hc0 : zcls a0 = 15)  : ∀ k : Nat, (∀ (x2 : Int) (mh : zu_m), zi_I mh → zfr [(15, 3), (15, 54), (83, 0), (84, 0), (95, 0)] m0 mh → (0 ≤ a1 ∧ a1 ≤ 15) → (0 ≤ x2 ∧ x2 ≤ 4) → (1 ≤ mh 216 0 ∧ mh 216 0 ≤ 16) → (0 ≤ mh a0 2 ∧ mh a0 2 ≤ 0) → (4 - x2) * 1 + 85 < (k : Int) → zw (zu_ex (zt_T n) 177 29 [(40, a0), (0, a1), (0, x2), (2, 0), (2, 0)] [] mh) (fun v m => zi_I m ∧ zfr [(15, 3), (15, 54), (83, 0), (84, 0), (95, 0)] m0 m ∧ ((-8) ≤ v ∧ v ≤ 3) ∧ (0 ≤ m a0 2 ∧ m a0 2 ≤ 0))) ∧ (∀ (x2 x3 : Int) (mh : zu_m), zi_I mh → zfr [(15, 3), (15, 54), (83, 0), (84, 0), (95, 0)] m0 mh → (0 ≤ a1 ∧ a1 ≤ 15) → (0 ≤ x2 ∧ x2 ≤ 3) → (0 ≤ x3 ∧ x3 ≤ 16) → (1 ≤ mh 216 0 ∧ mh 216 0 ≤ 16) → (0 ≤ mh a0 2 ∧ mh a0 2 ≤ 0) → (16 - x3) * 5 + 4 < (k : Int) → zw (zu_ex (zt_T n) 177 51 [(40, a0), (0, a1), (0, x2), (0, x3), (2, 0)] [] mh) (fun v m => zi_I m ∧ zfr [(15, 3), (15, 54), (83, 0), (84, 0), (95, 0)] m0 m ∧ ((-8) ≤ v ∧ v ≤ 3) ∧ (0 ≤ m a0 2 ∧ m a0 2 ≤ 0))) ∧ (∀ (x2 x3 x4 : Int) (mh : zu_m), zi_I mh → zfr [(15, 3), (15, 54), (83, 0), (84, 0), (95, 0)] m0 mh → (0 ≤ a1 ∧ a1 ≤ 15) → (0 ≤ x2 ∧ x2 ≤ 3) → (0 ≤ x3 ∧ x3 ≤ 15) → (1 ≤ x4 ∧ x4 ≤ 4) → (1 ≤ mh 216 0 ∧ mh 216 0 ≤ 16) → (0 ≤ mh a0 2 ∧ mh a0 2 ≤ 0) → (4 - x4) * 1 + (16 - x3) * 5 + 0 < (k : Int) → zw (zu_ex (zt_T n) 177 73 [(40, a0), (0, a1), (0, x2), (0, x3), (0, x4)] [] mh) (fun v m => zi_I m ∧ zfr [(15, 3), (15, 54), (83, 0), (84, 0), (95, 0)] m0 m ∧ ((-8) ≤ v ∧ v ≤ 3) ∧ (0 ≤ m a0 2 ∧ m a0 2 ≤ 0))) := by
  intro k
  induction k with
  | zero => exact ⟨fun x2 mh hImh hFmh hba1 hbx2 hg2 hg3 hM => by exfalso; omega, fun x2 x3 mh hImh hFmh hba1 hbx2 hbx3 hg3 hg4 hM => by exfalso; omega, fun x2 x3 x4 mh hImh hFmh hba1 hbx2 hbx3 hbx4 hg4 hg5 hM => by exfalso; omega⟩
  | succ k ih =>
    refine ⟨?_, ?_, ?_⟩
    · intro x2 mh hImh hFmh hba1 hbx2 hg2 hg3 hM
      refine zw_eq (zr_177_29 n a0 a1 x2 mh) ?_
      refine zw_ite (fun h1 => ?_) (fun h1 => ?_)
      · have hM : (16 - 0) * 5 + 4 < (k : Int) := by omega
        exact ih.2.1 0 0 mh hImh hFmh ⟨by omega, by omega⟩ ⟨by omega, by omega⟩ ⟨by omega, by omega⟩ ⟨by omega, by omega⟩ ⟨by omega, by omega⟩ hM
      · have b2 : 0 ≤ x2 ∧ x2 < 4 := by omega
        refine zw_if b2 ?_
        generalize hmm3 : zu_up mh 225 x2 0 = m3
        have hIm3 := zi_up hmm3 hImh zq_225 (zb_95 _) (by omega) (by omega)
        have hFm3 := zfr_up hmm3 hFmh zq_225 rfl
        have w4 := zu_w32_id (z := x2 + 1) (by omega) (by omega)
        have r5 : (-2147483648) ≤ (m3 a0 2) ∧ (m3 a0 2) ≤ 2147483647 := zi_rd hIm3 hc0 zb_15_2
        have e6 : (m3 a0 2) = (mh a0 2) := (zs_ne hmm3 (Or.inl (zc_ne hc0 zq_225 (by decide))))
        have r7 : 0 ≤ (m3 216 0) ∧ (m3 216 0) ≤ 16 := zi_rdr (m := 2) (r0 := 0) (r1 := 0) hIm3 zq_216 (by omega) (by decide +kernel)
        have e8 : (m3 216 0) = (mh 216 0) := (zs_ne hmm3 (Or.inl (zc_ne zq_216 zq_225 (by decide))))
        have hM : (4 - (zu_w32 (x2 + 1))) * 1 + 85 < (k : Int) := by omega
        exact ih.1 (zu_w32 (x2 + 1)) m3 hIm3 hFm3 ⟨by omega, by omega⟩ ⟨by omega, by omega⟩ ⟨by omega, by omega⟩ ⟨by omega, by omega⟩ hM
    · intro x2 x3 mh hImh hFmh hba1 hbx2 hbx3 hg3 hg4 hM
      refine zw_eq (zr_177_51 n a0 a1 x2 x3 mh) ?_
      refine zw_ite (fun h9 => ?_) (fun h9 => ?_)
      · exact zw_some ⟨hImh, hFmh, ⟨by omega, by omega⟩, ⟨by omega, by omega⟩⟩
      · have b10 : 0 ≤ x3 ∧ x3 < 36 := by omega
        refine zw_if b10 ?_
        have r11 : (-3) ≤ (mh 215 x3) ∧ (mh 215 x3) ≤ 3 := zi_rd hImh zq_215 (zb_85 _)
        refine zw_ite (fun h12 => ?_) (fun h12 => ?_)
        · have hM : (4 - 1) * 1 + (16 - x3) * 5 + 0 < (k : Int) := by omega
          exact ih.2.2 0 x3 1 mh hImh hFmh ⟨by omega, by omega⟩ ⟨by omega, by omega⟩ ⟨by omega, by omega⟩ ⟨by omega, by omega⟩ ⟨by omega, by omega⟩ ⟨by omega, by omega⟩ hM
        · have w13 := zu_w32_id (z := x3 + 1) (by omega) (by omega)
          have hM : (16 - (zu_w32 (x3 + 1))) * 5 + 4 < (k : Int) := by omega
          exact ih.2.1 x2 (zu_w32 (x3 + 1)) mh hImh hFmh ⟨by omega, by omega⟩ ⟨by omega, by omega⟩ ⟨by omega, by omega⟩ ⟨by omega, by omega⟩ ⟨by omega, by omega⟩ hM
    · intro x2 x3 x4 mh hImh hFmh hba1 hbx2 hbx3 hbx4 hg4 hg5 hM
      refine zw_eq (zr_177_73 n a0 a1 x2 x3 x4 mh) ?_
      have r14 : 0 ≤ (mh a0 15) ∧ (mh a0 15) ≤ 4 := zi_rd hImh hc0 zb_15_15
      refine zw_ite (fun h15 => ?_) (fun h15 => ?_)
      · have b16 : 0 ≤ x2 ∧ x2 < 4 := by omega
        refine zw_if b16 ?_
        have r17 : (-2147483648) ≤ (mh 225 x2) ∧ (mh 225 x2) ≤ 2147483647 := zi_rd hImh zq_225 (zb_95 _)
        refine zw_bd (zw_mono (zk_132 n hImh hc0 ⟨by omega, by omega⟩ ⟨by omega, by omega⟩) (fun v19 m18 hqm18 => ?_))
        obtain ⟨hIm18, hfm18, hvm18⟩ := hqm18
        have hFm18 := zfr_tr hFmh hfm18 rfl
        have w20 := zu_w32_rg ((mh 225 x2) + v19)
        have b21 : 0 ≤ x2 ∧ x2 < 4 := by omega
        refine zw_if b21 ?_
        generalize hmm22 : zu_up m18 225 x2 (zu_w32 ((mh 225 x2) + v19)) = m22
        have hIm22 := zi_up hmm22 hIm18 zq_225 (zb_95 _) (by omega) (by omega)
        have hFm22 := zfr_up hmm22 hFm18 zq_225 rfl
        have w23 := zu_w32_id (z := x3 + 1) (by omega) (by omega)
        have r24 : (-2147483648) ≤ (m22 a0 2) ∧ (m22 a0 2) ≤ 2147483647 := zi_rd hIm22 hc0 zb_15_2
        have e25 : (m22 a0 2) = (mh a0 2) := (Eq.trans (zs_ne hmm22 (Or.inl (zc_ne hc0 zq_225 (by decide)))) (zfr_ap hfm18 hc0 rfl))
        have r26 : 0 ≤ (m22 216 0) ∧ (m22 216 0) ≤ 16 := zi_rdr (m := 2) (r0 := 0) (r1 := 0) hIm22 zq_216 (by omega) (by decide +kernel)
        have e27 : (m22 216 0) = (mh 216 0) := (Eq.trans (zs_ne hmm22 (Or.inl (zc_ne zq_216 zq_225 (by decide)))) (zfr_ap hfm18 zq_216 rfl))
        have hM : (16 - (zu_w32 (x3 + 1))) * 5 + 4 < (k : Int) := by omega
        exact zw_le (zu_forget (zu_lr_same (zu_lr_same (zu_lr_same (zu_lr_same (zu_lr_drop zu_lr_nil)))))) (ih.2.1 x2 (zu_w32 (x3 + 1)) m22 hIm22 hFm22 ⟨by omega, by omega⟩ ⟨by omega, by omega⟩ ⟨by omega, by omega⟩ ⟨by omega, by omega⟩ ⟨by omega, by omega⟩ hM)
      · have b28 : 0 ≤ x4 ∧ x4 < 4 := by omega
        refine zw_if b28 ?_
        have r29 : (-2147483648) ≤ (mh 225 x4) ∧ (mh 225 x4) ≤ 2147483647 := zi_rd hImh zq_225 (zb_95 _)
        have b30 : 0 ≤ x2 ∧ x2 < 4 := by omega
        refine zw_if b30 ?_
        have r31 : (-2147483648) ≤ (mh 225 x2) ∧ (mh 225 x2) ≤ 2147483647 := zi_rd hImh zq_225 (zb_95 _)
        refine zw_ite (fun h32 => ?_) (fun h32 => ?_)
        · have w33 := zu_w32_id (z := x4 + 1) (by omega) (by omega)
          have hM : (4 - (zu_w32 (x4 + 1))) * 1 + (16 - x3) * 5 + 0 < (k : Int) := by omega
          exact ih.2.2 x2 x3 (zu_w32 (x4 + 1)) mh hImh hFmh ⟨by omega, by omega⟩ ⟨by omega, by omega⟩ ⟨by omega, by omega⟩ ⟨by omega, by omega⟩ ⟨by omega, by omega⟩ ⟨by omega, by omega⟩ hM
        · have w34 := zu_w32_id (z := x4 + 1) (by omega) (by omega)
          have hM : (4 - (zu_w32 (x4 + 1))) * 1 + (16 - x3) * 5 + 0 < (k : Int) := by omega
          exact ih.2.2 x4 x3 (zu_w32 (x4 + 1)) mh hImh hFmh ⟨by omega, by omega⟩ ⟨by omega, by omega⟩ ⟨by omega, by omega⟩ ⟨by omega, by omega⟩ ⟨by omega, by omega⟩ ⟨by omega, by omega⟩ hM
set_option maxHeartbeats 4000000 in
theorem zk_177 (n : Nat) {a0 a1 : Int} {m0 : zu_m} (hIm0 : zi_I m0) (hc0 : zcls a0 = 15) (ha1 : (-2147483648) ≤ a1 ∧ a1 ≤ 2147483647)    : zw (zu_call (zt_T n) 177 [(40, a0), (0, a1)] m0) (fun v m => zi_I m ∧ zfr [(15, 3), (15, 54), (83, 0), (84, 0), (95, 0)] m0 m ∧ ((-8) ≤ v ∧ v ≤ 3) ∧ (0 ≤ m a0 2 ∧ m a0 2 ≤ 0)) := by
  have hFm0 : zfr [(15, 3), (15, 54), (83, 0), (84, 0), (95, 0)] m0 m0 := zfr_rf _ _
  refine zw_eq (zr_177_0 n a0 a1 m0) ?_
  generalize hmm35 : zu_up m0 a0 2 0 = m35
  have hIm35 := zi_up hmm35 hIm0 hc0 zb_15_2 (by omega) (by omega)
  have hFm35 := zfr_up hmm35 hFm0 hc0 rfl
  refine zw_bd (zw_eq (zr_124_0 n a0 a1 m35) ?_)
  refine zw_ite (fun h36 => ?_) (fun h36 => ?_)
  · refine zw_b (by omega) ?_
    refine zw_some ?_
    refine zw_ite (fun h37 => ?_) (fun h37 => ?_)
    · exfalso; omega
    · have r38 : (-2147483648) ≤ (m35 a0 2) ∧ (m35 a0 2) ≤ 2147483647 := zi_rd hIm35 hc0 zb_15_2
      have e39 : (m35 a0 2) = 0 := (zs_eq hmm35)
      exact zw_some ⟨hIm35, hFm35, ⟨by omega, by omega⟩, ⟨by omega, by omega⟩⟩
  · have b40 : 0 ≤ (0 : Int) ∧ (0 : Int) < 2 := by omega
    refine zw_if b40 ?_
    have r41 : 0 ≤ (m35 216 0) ∧ (m35 216 0) ≤ 16 := zi_rdr (m := 2) (r0 := 0) (r1 := 0) hIm35 zq_216 (by omega) (by decide +kernel)
    refine zw_ite (fun h42 => ?_) (fun h42 => ?_)
    · refine zw_b (by omega) ?_
      refine zw_some ?_
      refine zw_ite (fun h43 => ?_) (fun h43 => ?_)
      · exfalso; omega
      · have r44 : (-2147483648) ≤ (m35 a0 2) ∧ (m35 a0 2) ≤ 2147483647 := zi_rd hIm35 hc0 zb_15_2
        have e45 : (m35 a0 2) = 0 := (zs_eq hmm35)
        exact zw_some ⟨hIm35, hFm35, ⟨by omega, by omega⟩, ⟨by omega, by omega⟩⟩
    · refine zw_b (by omega) ?_
      refine zw_some ?_
      refine zw_ite (fun h46 => ?_) (fun h46 => ?_)
      · have b47 : 0 ≤ a1 ∧ a1 < 36 := by omega
        refine zw_if b47 ?_
        have r48 : (-3) ≤ (m35 215 a1) ∧ (m35 215 a1) ≤ 3 := zi_rd hIm35 zq_215 (zb_85 _)
        refine zw_ite (fun h49 => ?_) (fun h49 => ?_)
        · have r50 : (-2147483648) ≤ (m35 a0 2) ∧ (m35 a0 2) ≤ 2147483647 := zi_rd hIm35 hc0 zb_15_2
          have e51 : (m35 a0 2) = 0 := (zs_eq hmm35)
          have hM : (4 - 0) * 1 + 85 < ((90 : Nat) : Int) := by omega
          exact (zl_177 n (m0 := m0) hc0 90).1 0 m35 hIm35 hFm35 ⟨by omega, by omega⟩ ⟨by omega, by omega⟩ ⟨by omega, by omega⟩ ⟨by omega, by omega⟩ hM
        · have r52 : (-2147483648) ≤ (m35 a0 2) ∧ (m35 a0 2) ≤ 2147483647 := zi_rd hIm35 hc0 zb_15_2
          have e53 : (m35 a0 2) = 0 := (zs_eq hmm35)
          exact zw_some ⟨hIm35, hFm35, ⟨by omega, by omega⟩, ⟨by omega, by omega⟩⟩
      · exfalso; omega
set_option maxHeartbeats 4000000 in
theorem zl_241 (n : Nat) {a0 a1 : Int} {m0 : zu_m} (hc0 : zcls a0 = 11)  : ∀ k : Nat, (∀ (x2 : Int) (mh : zu_m), zi_I mh → zfr [(24, 0), (27, 0)] m0 mh → (0 ≤ a1 ∧ a1 ≤ 3) → (0 ≤ x2 ∧ x2 ≤ 4) → (4 - x2) * 5 + 4 < (k : Int) → zw (zu_ex (zt_T n) 241 2 [(27, a0), (0, a1), (0, x2), (2, 0), (2, 0)] [] mh) (fun v m => zi_I m ∧ zfr [(24, 0), (27, 0)] m0 m ∧ ((-2) ≤ v ∧ v ≤ 15))) ∧ (∀ (x2 x3 : Int) (mh : zu_m), zi_I mh → zfr [(24, 0), (27, 0)] m0 mh → (0 ≤ a1 ∧ a1 ≤ 3) → (0 ≤ x2 ∧ x2 ≤ 3) → (1 ≤ x3 ∧ x3 ≤ 4) → (1 ≤ mh a0 4 ∧ mh a0 4 ≤ 4) → (4 - x3) * 1 + (4 - x2) * 5 + 0 < (k : Int) → zw (zu_ex (zt_T n) 241 14 [(27, a0), (0, a1), (0, x2), (0, x3), (2, 0)] [] mh) (fun v m => zi_I m ∧ zfr [(24, 0), (27, 0)] m0 m ∧ ((-2) ≤ v ∧ v ≤ 15))) := by
  intro k
  induction k with
  | zero => exact ⟨fun x2 mh hImh hFmh hba1 hbx2 hM => by exfalso; omega, fun x2 x3 mh hImh hFmh hba1 hbx2 hbx3 hg3 hM => by exfalso; omega⟩
  | succ k ih =>
    refine ⟨?_, ?_⟩
    · intro x2 mh hImh hFmh hba1 hbx2 hM
      refine zw_eq (zr_241_2 n a0 a1 x2 mh) ?_
      have r1 : 0 ≤ (mh a0 4) ∧ (mh a0 4) ≤ 4 := zi_rd hImh hc0 zb_11_4
      refine zw_ite (fun h2 => ?_) (fun h2 => ?_)
      · exact zw_some ⟨hImh, hFmh, ⟨by omega, by omega⟩⟩
      · have w3 := zu_w32_id (z := x2 + 1) (by omega) (by omega)
        have hM : (4 - (zu_w32 (x2 + 1))) * 1 + (4 - x2) * 5 + 0 < (k : Int) := by omega
        exact ih.2 x2 (zu_w32 (x2 + 1)) mh hImh hFmh ⟨by omega, by omega⟩ ⟨by omega, by omega⟩ ⟨by omega, by omega⟩ ⟨by omega, by omega⟩ hM
    · intro x2 x3 mh hImh hFmh hba1 hbx2 hbx3 hg3 hM
      refine zw_eq (zr_241_14 n a0 a1 x2 x3 mh) ?_
      refine zw_ite (fun h4 => ?_) (fun h4 => ?_)
      · have w5 := zu_w32_id (z := x2 + 1) (by omega) (by omega)
        have hM : (4 - (zu_w32 (x2 + 1))) * 5 + 4 < (k : Int) := by omega
        exact zw_le (zu_forget (zu_lr_same (zu_lr_same (zu_lr_same (zu_lr_drop (zu_lr_same zu_lr_nil)))))) (ih.1 (zu_w32 (x2 + 1)) mh hImh hFmh ⟨by omega, by omega⟩ ⟨by omega, by omega⟩ hM)
      · refine zw_bd (zw_mono (zk_242 n hImh hc0 ⟨by omega, by omega⟩ ⟨by omega, by omega⟩) (fun v7 m6 hqm6 => ?_))
        obtain ⟨hIm6, hfm6, hvm6⟩ := hqm6
        have hFm6 := zfr_tr hFmh hfm6 rfl
        refine zw_ite (fun h8 => ?_) (fun h8 => ?_)
        · have w9 := zu_w32_id (z := x3 + 1) (by omega) (by omega)
          have r10 : 0 ≤ (m6 a0 4) ∧ (m6 a0 4) ≤ 4 := zi_rd hIm6 hc0 zb_11_4
          have e11 : (m6 a0 4) = (mh a0 4) := (zfr_ap hfm6 hc0 rfl)
          have hM : (4 - (zu_w32 (x3 + 1))) * 1 + (4 - x2) * 5 + 0 < (k : Int) := by omega
          exact zw_le (zu_forget (zu_lr_same (zu_lr_same (zu_lr_same (zu_lr_same (zu_lr_drop zu_lr_nil)))))) (ih.2 x2 (zu_w32 (x3 + 1)) m6 hIm6 hFm6 ⟨by omega, by omega⟩ ⟨by omega, by omega⟩ ⟨by omega, by omega⟩ ⟨by omega, by omega⟩ hM)
        · refine zw_ite (fun h12 => ?_) (fun h12 => ?_)
          · exact zw_some ⟨hIm6, hFm6, ⟨by omega, by omega⟩⟩
          · refine zw_ite (fun h13 => ?_) (fun h13 => ?_)
            · exact zw_some ⟨hIm6, hFm6, ⟨by omega, by omega⟩⟩
            · refine zw_ite (fun h14 => ?_) (fun h14 => ?_)
              · refine zw_nif (by omega) ?_
                have d15 : Int.tdiv v7 16 = v7 / 16 := Int.tdiv_eq_ediv_of_nonneg (by omega)
                have w16 := zu_w32_id (z := Int.tdiv v7 16) (by omega) (by omega)
                exact zw_some ⟨hIm6, hFm6, ⟨by omega, by omega⟩⟩
              · refine zw_nif (by omega) ?_
                have d17 : Int.tmod v7 16 = v7 % 16 := Int.tmod_eq_emod_of_nonneg (by omega)
                exact zw_some ⟨hIm6, hFm6, ⟨by omega, by omega⟩⟩
set_option maxHeartbeats 4000000 in
theorem zk_241 (n : Nat) {a0 a1 : Int} {m0 : zu_m} (hIm0 : zi_I m0) (hc0 : zcls a0 = 11) (ha1 : 0 ≤ a1 ∧ a1 ≤ 3)    : zw (zu_call (zt_T n) 241 [(27, a0), (0, a1)] m0) (fun v m => zi_I m ∧ zfr [(24, 0), (27, 0)] m0 m ∧ ((-2) ≤ v ∧ v ≤ 15)) := by
  have hFm0 : zfr [(24, 0), (27, 0)] m0 m0 := zfr_rf _ _
  refine zw_eq (zr_241_0 n a0 a1 m0) ?_
  have hM : (4 - 0) * 5 + 4 < ((25 : Nat) : Int) := by omega
  exact (zl_241 n (m0 := m0) hc0 25).1 0 m0 hIm0 hFm0 ⟨by omega, by omega⟩ ⟨by omega, by omega⟩ hM
set_option maxHeartbeats 4000000 in
theorem zk_258 (n : Nat) {a0 : Int} {m0 : zu_m} (hIm0 : zi_I m0) (hc0 : zcls a0 = 3)   (he0 : 1 ≤ m0 45 4 ∧ m0 45 4 ≤ 5)  : zw (zu_call (zt_T n) 258 [(7, a0)] m0) (fun v m => zi_I m ∧ zfr [(3, 5), (3, 6), (3, 7), (3, 8), (3, 9), (3, 10), (3, 11), (4, 1), (4, 2), (4, 3), (4, 4), (4, 5), (4, 6), (5, 6), (5, 7), (6, 3), (6, 5), (6, 11), (6, 12), (7, 1), (7, 2), (7, 3), (7, 4), (8, 1), (8, 2), (8, 3), (8, 4), (8, 5), (8, 6), (8, 7), (9, 4), (9, 5), (9, 6), (9, 7), (10, 4), (10, 5), (10, 7), (10, 8), (17, 0), (18, 0), (19, 0), (20, 0), (21, 0), (22, 0), (23, 0), (34, 0), (35, 0)] m0 m ∧ (0 ≤ v ∧ v ≤ 1)) := by
  have hFm0 : zfr [(3, 5), (3, 6), (3, 7), (3, 8), (3, 9), (3, 10), (3, 11), (4, 1), (4, 2), (4, 3), (4, 4), (4, 5), (4, 6), (5, 6), (5, 7), (6, 3), (6, 5), (6, 11), (6, 12), (7, 1), (7, 2), (7, 3), (7, 4), (8, 1), (8, 2), (8, 3), (8, 4), (8, 5), (8, 6), (8, 7), (9, 4), (9, 5), (9, 6), (9, 7), (10, 4), (10, 5), (10, 7), (10, 8), (17, 0), (18, 0), (19, 0), (20, 0), (21, 0), (22, 0), (23, 0), (34, 0), (35, 0)] m0 m0 := zfr_rf _ _
  refine zw_eq (zr_258_0 n a0 m0) ?_
  refine zw_bd (zw_eq (zr_279_0 n 45 0 12 m0) ?_)
  refine zw_ite (fun h1 => ?_) (fun h1 => ?_)
  · refine zw_b (by omega) ?_
    refine zw_some ?_
    refine zw_ite (fun h2 => ?_) (fun h2 => ?_)
    · exfalso; omega
    · refine zw_bd (zw_eq (zr_257_0 n a0 1 m0) ?_)
      generalize hmm3 : zu_up m0 a0 9 1 = m3
      have hIm3 := zi_up hmm3 hIm0 hc0 zb_3_9 (by omega) (by omega)
      have hFm3 := zfr_up hmm3 hFm0 hc0 rfl
      have r4 : 0 ≤ (m3 45 6) ∧ (m3 45 6) ≤ 700 := zi_rd hIm3 zq_45 zb_9_6
      generalize hmm5 : zu_up m3 a0 10 (m3 45 6) = m5
      have hIm5 := zi_up hmm5 hIm3 hc0 zb_3_10 (by omega) (by omega)
      have hFm5 := zfr_up hmm5 hFm3 hc0 rfl
      refine zw_b (by omega) ?_
      refine zw_some ?_
      refine zw_b (by omega) ?_
      exact zw_some ⟨hIm5, hFm5, ⟨by omega, by omega⟩⟩
  · have r6 : (-2147483648) ≤ (m0 45 5) ∧ (m0 45 5) ≤ 2147483647 := zi_rd hIm0 zq_45 zb_9_5
    refine zw_ite (fun h7 => ?_) (fun h7 => ?_)
    · refine zw_b (by omega) ?_
      refine zw_some ?_
      refine zw_ite (fun h8 => ?_) (fun h8 => ?_)
      · exfalso; omega
      · refine zw_bd (zw_eq (zr_257_0 n a0 1 m0) ?_)
        generalize hmm9 : zu_up m0 a0 9 1 = m9
        have hIm9 := zi_up hmm9 hIm0 hc0 zb_3_9 (by omega) (by omega)
        have hFm9 := zfr_up hmm9 hFm0 hc0 rfl
        have r10 : 0 ≤ (m9 45 6) ∧ (m9 45 6) ≤ 700 := zi_rd hIm9 zq_45 zb_9_6
        generalize hmm11 : zu_up m9 a0 10 (m9 45 6) = m11
        have hIm11 := zi_up hmm11 hIm9 hc0 zb_3_10 (by omega) (by omega)
        have hFm11 := zfr_up hmm11 hFm9 hc0 rfl
        refine zw_b (by omega) ?_
        refine zw_some ?_
        refine zw_b (by omega) ?_
        exact zw_some ⟨hIm11, hFm11, ⟨by omega, by omega⟩⟩
    · have w12 := zu_w32_id (z := 0 + 12) (by omega) (by omega)
      refine zw_ite (fun h13 => ?_) (fun h13 => ?_)
      · refine zw_b (by omega) ?_
        refine zw_some ?_
        refine zw_ite (fun h14 => ?_) (fun h14 => ?_)
        · exfalso; omega
        · refine zw_bd (zw_eq (zr_257_0 n a0 1 m0) ?_)
          generalize hmm15 : zu_up m0 a0 9 1 = m15
          have hIm15 := zi_up hmm15 hIm0 hc0 zb_3_9 (by omega) (by omega)
          have hFm15 := zfr_up hmm15 hFm0 hc0 rfl
          have r16 : 0 ≤ (m15 45 6) ∧ (m15 45 6) ≤ 700 := zi_rd hIm15 zq_45 zb_9_6
          generalize hmm17 : zu_up m15 a0 10 (m15 45 6) = m17
          have hIm17 := zi_up hmm17 hIm15 hc0 zb_3_10 (by omega) (by omega)
          have hFm17 := zfr_up hmm17 hFm15 hc0 rfl
          refine zw_b (by omega) ?_
          refine zw_some ?_
          refine zw_b (by omega) ?_
          exact zw_some ⟨hIm17, hFm17, ⟨by omega, by omega⟩⟩
      · refine zw_b (by omega) ?_
        refine zw_some ?_
        refine zw_ite (fun h18 => ?_) (fun h18 => ?_)
        · refine zw_ite (fun h19 => ?_) (fun h19 => ?_)
          · refine zw_bd (zw_mono (zk_264 n hIm0 hc0) (fun v21 m20 hqm20 => ?_))
            obtain ⟨hIm20, hfm20, hvm20⟩ := hqm20
            have hFm20 := zfr_tr hFm0 hfm20 rfl
            refine zw_ite (fun h22 => ?_) (fun h22 => ?_)
            · refine zw_b (by omega) ?_
              exact zw_some ⟨hIm20, hFm20, ⟨by omega, by omega⟩⟩
            · refine zw_bd (zw_mono (zk_259 n hIm20 hc0) (fun v24 m23 hqm23 => ?_))
              obtain ⟨hIm23, hfm23, hvm23⟩ := hqm23
              have hFm23 := zfr_tr hFm20 hfm23 rfl
              refine zw_ite (fun h25 => ?_) (fun h25 => ?_)
              · refine zw_b (by omega) ?_
                exact zw_some ⟨hIm23, hFm23, ⟨by omega, by omega⟩⟩
              · refine zw_b (by omega) ?_
                exact zw_some ⟨hIm23, hFm23, ⟨by omega, by omega⟩⟩
          · refine zw_ite (fun h26 => ?_) (fun h26 => ?_)
            · refine zw_bd (zw_mono (zk_266 n hIm0 hc0 ⟨by omega, by omega⟩ ⟨by omega, by omega⟩) (fun v28 m27 hqm27 => ?_))
              obtain ⟨hIm27, hfm27, hvm27⟩ := hqm27
              have hFm27 := zfr_tr hFm0 hfm27 rfl
              refine zw_ite (fun h29 => ?_) (fun h29 => ?_)
              · refine zw_b (by omega) ?_
                exact zw_some ⟨hIm27, hFm27, ⟨by omega, by omega⟩⟩
              · refine zw_bd (zw_mono (zk_259 n hIm27 hc0) (fun v31 m30 hqm30 => ?_))
                obtain ⟨hIm30, hfm30, hvm30⟩ := hqm30
                have hFm30 := zfr_tr hFm27 hfm30 rfl
                refine zw_ite (fun h32 => ?_) (fun h32 => ?_)
                · refine zw_b (by omega) ?_
                  exact zw_some ⟨hIm30, hFm30, ⟨by omega, by omega⟩⟩
                · refine zw_b (by omega) ?_
                  exact zw_some ⟨hIm30, hFm30, ⟨by omega, by omega⟩⟩
            · refine zw_ite (fun h33 => ?_) (fun h33 => ?_)
              · refine zw_bd (zw_mono (zk_267 n hIm0 hc0 ⟨by omega, by omega⟩ ⟨by omega, by omega⟩) (fun v35 m34 hqm34 => ?_))
                obtain ⟨hIm34, hfm34, hvm34⟩ := hqm34
                have hFm34 := zfr_tr hFm0 hfm34 rfl
                refine zw_ite (fun h36 => ?_) (fun h36 => ?_)
                · refine zw_b (by omega) ?_
                  exact zw_some ⟨hIm34, hFm34, ⟨by omega, by omega⟩⟩
                · refine zw_bd (zw_mono (zk_259 n hIm34 hc0) (fun v38 m37 hqm37 => ?_))
                  obtain ⟨hIm37, hfm37, hvm37⟩ := hqm37
                  have hFm37 := zfr_tr hFm34 hfm37 rfl
                  refine zw_ite (fun h39 => ?_) (fun h39 => ?_)
                  · refine zw_b (by omega) ?_
                    exact zw_some ⟨hIm37, hFm37, ⟨by omega, by omega⟩⟩
                  · refine zw_b (by omega) ?_
                    exact zw_some ⟨hIm37, hFm37, ⟨by omega, by omega⟩⟩
              · refine zw_ite (fun h40 => ?_) (fun h40 => ?_)
                · refine zw_bd (zw_mono (zk_270 n hIm0 hc0 ⟨by omega, by omega⟩ ⟨by omega, by omega⟩) (fun v42 m41 hqm41 => ?_))
                  obtain ⟨hIm41, hfm41, hvm41⟩ := hqm41
                  have hFm41 := zfr_tr hFm0 hfm41 rfl
                  refine zw_b (by omega) ?_
                  exact zw_some ⟨hIm41, hFm41, ⟨by omega, by omega⟩⟩
                · refine zw_ite (fun h43 => ?_) (fun h43 => ?_)
                  · refine zw_bd (zw_mono (zk_268 n hIm0 hc0 ⟨by omega, by omega⟩) (fun v45 m44 hqm44 => ?_))
                    obtain ⟨hIm44, hfm44, hvm44⟩ := hqm44
                    have hFm44 := zfr_tr hFm0 hfm44 rfl
                    refine zw_ite (fun h46 => ?_) (fun h46 => ?_)
                    · refine zw_b (by omega) ?_
                      exact zw_some ⟨hIm44, hFm44, ⟨by omega, by omega⟩⟩
                    · refine zw_bd (zw_mono (zk_259 n hIm44 hc0) (fun v48 m47 hqm47 => ?_))
                      obtain ⟨hIm47, hfm47, hvm47⟩ := hqm47
                      have hFm47 := zfr_tr hFm44 hfm47 rfl
                      refine zw_ite (fun h49 => ?_) (fun h49 => ?_)
                      · refine zw_b (by omega) ?_
                        exact zw_some ⟨hIm47, hFm47, ⟨by omega, by omega⟩⟩
                      · refine zw_b (by omega) ?_
                        exact zw_some ⟨hIm47, hFm47, ⟨by omega, by omega⟩⟩
                  · refine zw_bd (zw_mono (zk_265 n hIm0 hc0 ⟨by omega, by omega⟩) (fun v51 m50 hqm50 => ?_))
                    obtain ⟨hIm50, hfm50, hvm50⟩ := hqm50
                    have hFm50 := zfr_tr hFm0 hfm50 rfl
                    refine zw_ite (fun h52 => ?_) (fun h52 => ?_)
                    · refine zw_b (by omega) ?_
                      exact zw_some ⟨hIm50, hFm50, ⟨by omega, by omega⟩⟩
                    · refine zw_bd (zw_mono (zk_259 n hIm50 hc0) (fun v54 m53 hqm53 => ?_))
                      obtain ⟨hIm53, hfm53, hvm53⟩ := hqm53
                      have hFm53 := zfr_tr hFm50 hfm53 rfl
                      refine zw_ite (fun h55 => ?_) (fun h55 => ?_)
                      · refine zw_b (by omega) ?_
                        exact zw_some ⟨hIm53, hFm53, ⟨by omega, by omega⟩⟩
                      · refine zw_b (by omega) ?_
                        exact zw_some ⟨hIm53, hFm53, ⟨by omega, by omega⟩⟩
        · exfalso; omega
set_option maxHeartbeats 4000000 in
theorem zk_286 (n : Nat) {a0 a1 : Int} {m0 : zu_m} (hIm0 : zi_I m0) (hc0 : zcls a0 = 14) (ha1 : 1 ≤ a1 ∧ a1 ≤ 40)    : zw (zu_call (zt_T n) 286 [(33, a0), (0, a1)] m0) (fun v m => zi_I m ∧ zfr [(7, 1), (7, 2), (7, 3), (7, 4), (8, 1), (8, 2), (8, 3), (8, 4), (8, 5), (8, 6), (8, 7), (8, 8), (11, 3), (11, 5), (11, 9), (11, 10), (11, 11), (11, 12), (14, 7), (24, 0), (27, 0), (38, 0), (39, 0), (51, 0)] m0 m ∧ True) := by
  sorry
set_option maxHeartbeats 4000000 in
theorem zl_287 (n : Nat) {a0 a1 a2 a3 : Int} {m0 : zu_m} (hc0 : zcls a0 = 14)  : ∀ k : Nat, (∀ (x4 : Int) (mh : zu_m), zi_I mh → zfr [(14, 16), (24, 0), (27, 0), (52, 0), (53, 0), (54, 0), (55, 0), (56, 0), (57, 0), (58, 0)] m0 mh → (1 ≤ a1 ∧ a1 ≤ 2) → (0 ≤ a2 ∧ a2 ≤ 47) → (0 ≤ a3 ∧ a3 ≤ 47) → (0 ≤ x4 ∧ x4 ≤ 161) → (161 - x4) * 1 + 0 < (k : Int) → zw (zu_ex (zt_T n) 287 10 [(33, a0), (0, a1), (0, a2), (0, a3), (0, x4)] [] mh) (fun v m => zi_I m ∧ zfr [(14, 16), (24, 0), (27, 0), (52, 0), (53, 0), (54, 0), (55, 0), (56, 0), (57, 0), (58, 0)] m0 m ∧ True)) := by
  intro k
  induction k with
  | zero => exact fun x4 mh hImh hFmh hba1 hba2 hba3 hbx4 hM => by exfalso; omega
  | succ k ih =>
    intro x4 mh hImh hFmh hba1 hba2 hba3 hbx4 hM
    refine zw_eq (zr_287_10 n a0 a1 a2 a3 x4 mh) ?_
    have r1 : 0 ≤ (mh a0 6) ∧ (mh a0 6) ≤ 161 := zi_rd hImh hc0 zb_14_6
    refine zw_ite (fun h2 => ?_) (fun h2 => ?_)
    · refine zw_bd (zw_mono (zk_293 n hImh hc0) (fun v4 m3 hqm3 => ?_))
      obtain ⟨hIm3, hfm3, hvm3⟩ := hqm3
      have hFm3 := zfr_tr hFmh hfm3 rfl
      have r5 : (-2147483648) ≤ (m3 a0 15) ∧ (m3 a0 15) ≤ 2147483647 := zi_rd hIm3 hc0 zb_14_15
      refine zw_ite (fun h6 => ?_) (fun h6 => ?_)
      · exact zw_some ⟨hIm3, hFm3, trivial⟩
      · generalize hmm7 : zu_up m3 a0 15 v4 = m7
        have hIm7 := zi_up hmm7 hIm3 hc0 zb_14_15 (by omega) (by omega)
        have hFm7 := zfr_up hmm7 hFm3 hc0 rfl
        have b8 : 0 ≤ (0 : Int) ∧ (0 : Int) < 2 := by omega
        refine zw_if b8 ?_
        generalize hmm9 : zu_up m7 161 0 a2 = m9
        have hIm9 := zi_up hmm9 hIm7 zq_161 (zb_58 _) (by omega) (by omega)
        have hFm9 := zfr_up hmm9 hFm7 zq_161 rfl
        have b10 : 0 ≤ (1 : Int) ∧ (1 : Int) < 2 := by omega
        refine zw_if b10 ?_
        generalize hmm11 : zu_up m9 161 1 a3 = m11
        have hIm11 := zi_up hmm11 hIm9 zq_161 (zb_58 _) (by omega) (by omega)
        have hFm11 := zfr_up hmm11 hFm9 zq_161 rfl
        exact zw_some ⟨hIm11, hFm11, trivial⟩
    · have b12 : 0 ≤ x4 ∧ x4 < 161 := by omega
      refine zw_if b12 ?_
      have r13 : (-1) ≤ (mh 154 x4) ∧ (mh 154 x4) ≤ 191 := zi_rd hImh zq_154 (zb_51 _)
      refine zw_ite (fun h14 => ?_) (fun h14 => ?_)
      · have b15 : 0 ≤ x4 ∧ x4 < 161 := by omega
        refine zw_if b15 ?_
        refine zw_nif (by omega) ?_
        have d16 : Int.tdiv (mh 154 x4) 48 = (mh 154 x4) / 48 := Int.tdiv_eq_ediv_of_nonneg (by omega)
        have w17 := zu_w32_id (z := Int.tdiv (mh 154 x4) 48) (by omega) (by omega)
        have b18 : 0 ≤ x4 ∧ x4 < 161 := by omega
        refine zw_if b18 ?_
        refine zw_nif (by omega) ?_
        have d19 : Int.tmod (mh 154 x4) 48 = (mh 154 x4) % 48 := Int.tmod_eq_emod_of_nonneg (by omega)
        have r20 : 0 ≤ (mh 89 2) ∧ (mh 89 2) ≤ 16 := zi_rd hImh zq_89 zb_11_2
        have w21 := zu_w32_id (z := (mh 89 2) + a1) (by omega) (by omega)
        refine zw_bd (zw_mono (zk_290 n hImh hc0 ⟨by omega, by omega⟩ ⟨by omega, by omega⟩ ⟨by omega, by omega⟩) (fun v23 m22 hqm22 => ?_))
        obtain ⟨hIm22, hfm22, hvm22⟩ := hqm22
        have hFm22 := zfr_tr hFmh hfm22 rfl
        have w24 := zu_w32_id (z := x4 + 1) (by omega) (by omega)
        have hM : (161 - (zu_w32 (x4 + 1))) * 1 + 0 < (k : Int) := by omega
        exact ih (zu_w32 (x4 + 1)) m22 hIm22 hFm22 ⟨by omega, by omega⟩ ⟨by omega, by omega⟩ ⟨by omega, by omega⟩ ⟨by omega, by omega⟩ hM
      · have r25 : 0 ≤ (mh 89 2) ∧ (mh 89 2) ≤ 16 := zi_rd hImh zq_89 zb_11_2
        have w26 := zu_w32_id (z := (mh 89 2) + a1) (by omega) (by omega)
        refine zw_bd (zw_mono (zk_289 n hImh hc0 ⟨by omega, by omega⟩) (fun v28 m27 hqm27 => ?_))
        obtain ⟨hIm27, hfm27, hvm27⟩ := hqm27
        have hFm27 := zfr_tr hFmh hfm27 rfl
        have w29 := zu_w32_id (z := x4 + 1) (by omega) (by omega)
        have hM : (161 - (zu_w32 (x4 + 1))) * 1 + 0 < (k : Int) := by omega
        exact ih (zu_w32 (x4 + 1)) m27 hIm27 hFm27 ⟨by omega, by omega⟩ ⟨by omega, by omega⟩ ⟨by omega, by omega⟩ ⟨by omega, by omega⟩ hM
set_option maxHeartbeats 4000000 in
theorem zk_287 (n : Nat) {a0 a1 a2 a3 : Int} {m0 : zu_m} (hIm0 : zi_I m0) (hc0 : zcls a0 = 14) (ha1 : 1 ≤ a1 ∧ a1 ≤ 2) (ha2 : 0 ≤ a2 ∧ a2 ≤ 47) (ha3 : 0 ≤ a3 ∧ a3 ≤ 47)    : zw (zu_call (zt_T n) 287 [(33, a0), (0, a1), (0, a2), (0, a3)] m0) (fun v m => zi_I m ∧ zfr [(14, 16), (24, 0), (27, 0), (52, 0), (53, 0), (54, 0), (55, 0), (56, 0), (57, 0), (58, 0)] m0 m ∧ True) := by
  have hFm0 : zfr [(14, 16), (24, 0), (27, 0), (52, 0), (53, 0), (54, 0), (55, 0), (56, 0), (57, 0), (58, 0)] m0 m0 := zfr_rf _ _
  refine zw_eq (zr_287_0 n a0 a1 a2 a3 m0) ?_
  refine zw_bd (zw_mono (zk_288 n hIm0 hc0 ⟨by omega, by omega⟩ ⟨by omega, by omega⟩ ⟨by omega, by omega⟩) (fun v31 m30 hqm30 => ?_))
  obtain ⟨hIm30, hfm30, hvm30⟩ := hqm30
  have hFm30 := zfr_tr hFm0 hfm30 rfl
  have hM : (161 - 0) * 1 + 0 < ((162 : Nat) : Int) := by omega
  exact (zl_287 n (m0 := m0) hc0 162) 0 m30 hIm30 hFm30 ⟨by omega, by omega⟩ ⟨by omega, by omega⟩ ⟨by omega, by omega⟩ ⟨by omega, by omega⟩ hM
set_option maxHeartbeats 4000000 in
theorem zl_298 (n : Nat) {a0 a1 : Int} {m0 : zu_m} (hc0 : zcls a0 = 14)  : ∀ k : Nat, (∀ (x2 x3 : Int) (mh : zu_m), zi_I mh → zfr [(7, 1), (7, 2), (7, 3), (7, 4), (8, 1), (8, 2), (8, 3), (8, 4), (8, 5), (8, 6), (8, 7), (8, 8), (11, 3), (11, 5), (11, 9), (11, 10), (11, 11), (11, 12), (14, 16), (24, 0), (27, 0), (38, 0), (39, 0)] m0 mh → (1 ≤ a1 ∧ a1 ≤ 200) → (0 ≤ x2 ∧ x2 ≤ 3) → (1 ≤ x3 ∧ x3 ≤ 4) → (1 ≤ mh 89 4 ∧ mh 89 4 ≤ 4) → (4 - x3) * 1 + 32 < (k : Int) → zw (zu_ex (zt_T n) 298 4 [(33, a0), (0, a1), (0, x2), (0, x3), (2, 0), (2, 0)] [] mh) (fun v m => zi_I m ∧ zfr [(7, 1), (7, 2), (7, 3), (7, 4), (8, 1), (8, 2), (8, 3), (8, 4), (8, 5), (8, 6), (8, 7), (8, 8), (11, 3), (11, 5), (11, 9), (11, 10), (11, 11), (11, 12), (14, 16), (24, 0), (27, 0), (38, 0), (39, 0)] m0 m ∧ (0 ≤ v ∧ v ≤ 30) ∧ ((-2147483648) ≤ m a0 15 ∧ m a0 15 ≤ 1000000))) ∧ (∀ (x2 x3 x4 : Int) (mh : zu_m), zi_I mh → zfr [(7, 1), (7, 2), (7, 3), (7, 4), (8, 1), (8, 2), (8, 3), (8, 4), (8, 5), (8, 6), (8, 7), (8, 8), (11, 3), (11, 5), (11, 9), (11, 10), (11, 11), (11, 12), (14, 16), (24, 0), (27, 0), (38, 0), (39, 0)] m0 mh → (1 ≤ a1 ∧ a1 ≤ 200) → (0 ≤ x2 ∧ x2 ≤ 3) → (0 ≤ x3 ∧ x3 ≤ 30) → (0 ≤ x4 ∧ x4 ≤ 31) → ((-2147483648) ≤ mh a0 15 ∧ mh a0 15 ≤ 1000000) → (31 - x4) * 1 + 0 < (k : Int) → zw (zu_ex (zt_T n) 298 61 [(33, a0), (0, a1), (0, x2), (0, x3), (0, x4), (2, 0)] [] mh) (fun v m => zi_I m ∧ zfr [(7, 1), (7, 2), (7, 3), (7, 4), (8, 1), (8, 2), (8, 3), (8, 4), (8, 5), (8, 6), (8, 7), (8, 8), (11, 3), (11, 5), (11, 9), (11, 10), (11, 11), (11, 12), (14, 16), (24, 0), (27, 0), (38, 0), (39, 0)] m0 m ∧ (0 ≤ v ∧ v ≤ 30) ∧ ((-2147483648) ≤ m a0 15 ∧ m a0 15 ≤ 1000000))) := by
  intro k
  induction k with
  | zero => exact ⟨fun x2 x3 mh hImh hFmh hba1 hbx2 hbx3 hg3 hM => by exfalso; omega, fun x2 x3 x4 mh hImh hFmh hba1 hbx2 hbx3 hbx4 hg4 hM => by exfalso; omega⟩
  | succ k ih =>
    refine ⟨?_, ?_⟩
    · intro x2 x3 mh hImh hFmh hba1 hbx2 hbx3 hg3 hM
      refine zw_eq (zr_298_4 n a0 a1 x2 x3 mh) ?_
      refine zw_ite (fun h1 => ?_) (fun h1 => ?_)
      · generalize hmm2 : zu_up mh a0 15 1000000 = m2
        have hIm2 := zi_up hmm2 hImh hc0 zb_14_15 (by omega) (by omega)
        have hFm2 := zfr_up hmm2 hFmh hc0 rfl
        have r3 : (-2147483648) ≤ (m2 a0 15) ∧ (m2 a0 15) ≤ 2147483647 := zi_rd hIm2 hc0 zb_14_15
        have e4 : (m2 a0 15) = 1000000 := (zs_eq hmm2)
        have hM : (31 - 0) * 1 + 0 < (k : Int) := by omega
        exact ih.2 x2 0 0 m2 hIm2 hFm2 ⟨by omega, by omega⟩ ⟨by omega, by omega⟩ ⟨by omega, by omega⟩ ⟨by omega, by omega⟩ ⟨by omega, by omega⟩ hM
      · have b5 : 0 ≤ x3 ∧ x3 < 4 := by omega
        refine zw_if b5 ?_
        have r6 : 0 ≤ (mh ((89 + 2) + 20 + x3) 2) ∧ (mh ((89 + 2) + 20 + x3) 2) ≤ 15 := zi_rd hImh (zc_37_e (zc_11_3 zq_89) b5) zb_8_2
        have b7 : 0 ≤ x2 ∧ x2 < 4 := by omega
        refine zw_if b7 ?_
        have r8 : 0 ≤ (mh ((89 + 2) + 20 + x2) 2) ∧ (mh ((89 + 2) + 20 + x2) 2) ≤ 15 := zi_rd hImh (zc_37_e (zc_11_3 zq_89) b7) zb_8_2
        refine zw_ite (fun h9 => ?_) (fun h9 => ?_)
        · have w10 := zu_w32_id (z := x3 + 1) (by omega) (by omega)
          have hM : (4 - (zu_w32 (x3 + 1))) * 1 + 32 < (k : Int) := by omega
          exact ih.1 x2 (zu_w32 (x3 + 1)) mh hImh hFmh ⟨by omega, by omega⟩ ⟨by omega, by omega⟩ ⟨by omega, by omega⟩ ⟨by omega, by omega⟩ hM
        · have w11 := zu_w32_id (z := x3 + 1) (by omega) (by omega)
          have hM : (4 - (zu_w32 (x3 + 1))) * 1 + 32 < (k : Int) := by omega
          exact ih.1 x3 (zu_w32 (x3 + 1)) mh hImh hFmh ⟨by omega, by omega⟩ ⟨by omega, by omega⟩ ⟨by omega, by omega⟩ ⟨by omega, by omega⟩ hM
    · intro x2 x3 x4 mh hImh hFmh hba1 hbx2 hbx3 hbx4 hg4 hM
      refine zw_eq (zr_298_61 n a0 a1 x2 x3 x4 mh) ?_
      refine zw_ite (fun h12 => ?_) (fun h12 => ?_)
      · exact zw_some ⟨hImh, hFmh, ⟨by omega, by omega⟩, ⟨by omega, by omega⟩⟩
      · refine zw_bd (zw_mono (zk_22_11_11 n hImh zq_164 zq_89) (fun v14 m13 hqm13 => ?_))
        obtain ⟨hIm13, hfm13, hvm13⟩ := hqm13
        have hFm13 := zfr_tr hFmh hfm13 rfl
        have b15 : 0 ≤ x2 ∧ x2 < 4 := by omega
        refine zw_if b15 ?_
        have r16 : (-2147483648) ≤ (m13 ((164 + 2) + 20 + x2) 4) ∧ (m13 ((164 + 2) + 20 + x2) 4) ≤ 2147483647 := zi_rd hIm13 (zc_37_e (zc_11_3 zq_164) b15) zb_8_4
        have w17 := zu_w32_rg ((m13 ((164 + 2) + 20 + x2) 4) + x4)
        generalize hmm18 : zu_up m13 ((164 + 2) + 20 + x2) 4 (zu_w32 ((m13 ((164 + 2) + 20 + x2) 4) + x4)) = m18
        have hIm18 := zi_up hmm18 hIm13 (zc_37_e (zc_11_3 zq_164) b15) zb_8_4 (by omega) (by omega)
        have hFm18 := zfr_up hmm18 hFm13 (zc_37_e (zc_11_3 zq_164) b15) rfl
        refine zw_bd (zw_mono (zk_214 n hIm18 zq_164 ⟨by omega, by omega⟩ ⟨by omega, by omega⟩) (fun v20 m19 hqm19 => ?_))
        obtain ⟨hIm19, hfm19, hvm19⟩ := hqm19
        have hFm19 := zfr_tr hFm18 hfm19 rfl
        refine zw_bd (zw_mono (zk_239 n hIm19 zq_164) (fun v22 m21 hqm21 => ?_))
        obtain ⟨hIm21, hfm21, hvm21⟩ := hqm21
        have hFm21 := zfr_tr hFm19 hfm21 rfl
        have r23 : (-2147483648) ≤ (m21 a0 15) ∧ (m21 a0 15) ≤ 2147483647 := zi_rd hIm21 hc0 zb_14_15
        have e24 : (m21 a0 15) = (mh a0 15) := (Eq.trans (zfr_ap hfm21 hc0 rfl) (Eq.trans (zfr_ap hfm19 hc0 rfl) (Eq.trans (zs_ne hmm18 (Or.inl (zc_ne hc0 (zc_37_e (zc_11_3 zq_164) b15) (by decide)))) (zfr_ap hfm13 hc0 rfl))))
        refine zw_ite (fun h25 => ?_) (fun h25 => ?_)
        · have w26 := zu_w32_id (z := x4 + 1) (by omega) (by omega)
          have hM : (31 - (zu_w32 (x4 + 1))) * 1 + 0 < (k : Int) := by omega
          exact zw_le (zu_forget (zu_lr_same (zu_lr_same (zu_lr_same (zu_lr_same (zu_lr_same (zu_lr_drop zu_lr_nil))))))) (ih.2 x2 x3 (zu_w32 (x4 + 1)) m21 hIm21 hFm21 ⟨by omega, by omega⟩ ⟨by omega, by omega⟩ ⟨by omega, by omega⟩ ⟨by omega, by omega⟩ ⟨by omega, by omega⟩ hM)
        · generalize hmm27 : zu_up m21 a0 15 v22 = m27
          have hIm27 := zi_up hmm27 hIm21 hc0 zb_14_15 (by omega) (by omega)
          have hFm27 := zfr_up hmm27 hFm21 hc0 rfl
          have w28 := zu_w32_id (z := x4 + 1) (by omega) (by omega)
          have r29 : (-2147483648) ≤ (m27 a0 15) ∧ (m27 a0 15) ≤ 2147483647 := zi_rd hIm27 hc0 zb_14_15
          have e30 : (m27 a0 15) = v22 := (zs_eq hmm27)
          have hM : (31 - (zu_w32 (x4 + 1))) * 1 + 0 < (k : Int) := by omega
          exact zw_le (zu_forget (zu_lr_same (zu_lr_same (zu_lr_same (zu_lr_same (zu_lr_same (zu_lr_drop zu_lr_nil))))))) (ih.2 x2 x4 (zu_w32 (x4 + 1)) m27 hIm27 hFm27 ⟨by omega, by omega⟩ ⟨by omega, by omega⟩ ⟨by omega, by omega⟩ ⟨by omega, by omega⟩ ⟨by omega, by omega⟩ hM)
set_option maxHeartbeats 4000000 in
theorem zk_298 (n : Nat) {a0 a1 : Int} {m0 : zu_m} (hIm0 : zi_I m0) (hc0 : zcls a0 = 14) (ha1 : 1 ≤ a1 ∧ a1 ≤ 200)  (he0 : 1 ≤ m0 89 4 ∧ m0 89 4 ≤ 4)  : zw (zu_call (zt_T n) 298 [(33, a0), (0, a1)] m0) (fun v m => zi_I m ∧ zfr [(7, 1), (7, 2), (7, 3), (7, 4), (8, 1), (8, 2), (8, 3), (8, 4), (8, 5), (8, 6), (8, 7), (8, 8), (11, 3), (11, 5), (11, 9), (11, 10), (11, 11), (11, 12), (14, 16), (24, 0), (27, 0), (38, 0), (39, 0)] m0 m ∧ (0 ≤ v ∧ v ≤ 30) ∧ ((-2147483648) ≤ m a0 15 ∧ m a0 15 ≤ 1000000)) := by
  have hFm0 : zfr [(7, 1), (7, 2), (7, 3), (7, 4), (8, 1), (8, 2), (8, 3), (8, 4), (8, 5), (8, 6), (8, 7), (8, 8), (11, 3), (11, 5), (11, 9), (11, 10), (11, 11), (11, 12), (14, 16), (24, 0), (27, 0), (38, 0), (39, 0)] m0 m0 := zfr_rf _ _
  refine zw_eq (zr_298_0 n a0 a1 m0) ?_
  have hM : (4 - 1) * 1 + 32 < ((36 : Nat) : Int) := by omega
  exact (zl_298 n (m0 := m0) hc0 36).1 0 1 m0 hIm0 hFm0 ⟨by omega, by omega⟩ ⟨by omega, by omega⟩ ⟨by omega, by omega⟩ ⟨by omega, by omega⟩ hM
set_option maxHeartbeats 4000000 in
theorem zk_299 (n : Nat) {a0 a1 a2 : Int} {m0 : zu_m} (hIm0 : zi_I m0) (hc0 : zcls a0 = 14) (ha1 : 0 ≤ a1 ∧ a1 ≤ 2) (ha2 : 1 ≤ a2 ∧ a2 ≤ 200)    : zw (zu_call (zt_T n) 299 [(33, a0), (0, a1), (0, a2)] m0) (fun v m => zi_I m ∧ zfr [(7, 1), (7, 2), (7, 3), (7, 4), (8, 1), (8, 2), (8, 3), (8, 4), (8, 5), (8, 6), (8, 7), (8, 8), (11, 3), (11, 5), (11, 9), (11, 10), (11, 11), (11, 12), (24, 0), (27, 0), (38, 0), (39, 0)] m0 m ∧ ((-2147483648) ≤ v ∧ v ≤ 2147483647) ∧ (0 ≤ m 164 10 ∧ m 164 10 ≤ 2)) := by
  have hFm0 : zfr [(7, 1), (7, 2), (7, 3), (7, 4), (8, 1), (8, 2), (8, 3), (8, 4), (8, 5), (8, 6), (8, 7), (8, 8), (11, 3), (11, 5), (11, 9), (11, 10), (11, 11), (11, 12), (24, 0), (27, 0), (38, 0), (39, 0)] m0 m0 := zfr_rf _ _
  refine zw_eq (zr_299_0 n a0 a1 a2 m0) ?_
  refine zw_bd (zw_mono (zk_22_11_11 n hIm0 zq_164 zq_89) (fun v2 m1 hqm1 => ?_))
  obtain ⟨hIm1, hfm1, hvm1⟩ := hqm1
  have hFm1 := zfr_tr hFm0 hfm1 rfl
  generalize hmm3 : zu_up m1 164 10 a1 = m3
  have hIm3 := zi_up hmm3 hIm1 zq_164 zb_11_10 (by omega) (by omega)
  have hFm3 := zfr_up hmm3 hFm1 zq_164 rfl
  refine zw_bd (zw_mono (zk_214 n hIm3 zq_164 ⟨by omega, by omega⟩ ⟨by omega, by omega⟩) (fun v5 m4 hqm4 => ?_))
  obtain ⟨hIm4, hfm4, hvm4⟩ := hqm4
  have hFm4 := zfr_tr hFm3 hfm4 rfl
  refine zw_bd (zw_mono (zk_240 n hIm4 zq_164) (fun v7 m6 hqm6 => ?_))
  obtain ⟨hIm6, hfm6, hvm6⟩ := hqm6
  have hFm6 := zfr_tr hFm4 hfm6 rfl
  have r8 : 0 ≤ (m6 164 10) ∧ (m6 164 10) ≤ 3 := zi_rd hIm6 zq_164 zb_11_10
  have e9 : (m6 164 10) = a1 := (Eq.trans (zfr_ap hfm6 zq_164 rfl) (Eq.trans (zfr_ap hfm4 zq_164 rfl) (zs_eq hmm3)))
  exact zw_some ⟨hIm6, hFm6, ⟨by omega, by omega⟩, ⟨by omega, by omega⟩⟩
set_option maxHeartbeats 4000000 in
theorem zl_302 (n : Nat) {a0 a1 a2 : Int} {m0 : zu_m} (hc0 : zcls a0 = 14)  : ∀ k : Nat, (∀ (x3 x4 : Int) (mh : zu_m), zi_I mh → zfr [(7, 1), (7, 2), (7, 3), (7, 4), (8, 1), (8, 2), (8, 3), (8, 4), (8, 5), (8, 6), (8, 7), (8, 8), (11, 3), (11, 5), (11, 9), (11, 10), (11, 11), (11, 12), (24, 0), (27, 0), (38, 0), (39, 0)] m0 mh → (0 ≤ a1 ∧ a1 ≤ 3) → (0 ≤ a2 ∧ a2 ≤ 30) → (0 ≤ x3 ∧ x3 ≤ 200) → (0 ≤ x4 ∧ x4 ≤ 200) → (200 - x4) * 1 + 0 < (k : Int) → zw (zu_ex (zt_T n) 302 35 [(33, a0), (0, a1), (0, a2), (0, x3), (0, x4)] [] mh) (fun v m => zi_I m ∧ zfr [(7, 1), (7, 2), (7, 3), (7, 4), (8, 1), (8, 2), (8, 3), (8, 4), (8, 5), (8, 6), (8, 7), (8, 8), (11, 3), (11, 5), (11, 9), (11, 10), (11, 11), (11, 12), (24, 0), (27, 0), (38, 0), (39, 0)] m0 m ∧ (0 ≤ v ∧ v ≤ 1))) := by
  intro k
  induction k with
  | zero => exact fun x3 x4 mh hImh hFmh hba1 hba2 hbx3 hbx4 hM => by exfalso; omega
  | succ k ih =>
    intro x3 x4 mh hImh hFmh hba1 hba2 hbx3 hbx4 hM
    refine zw_eq (zr_302_35 n a0 a1 a2 x3 x4 mh) ?_
    refine zw_ite (fun h1 => ?_) (fun h1 => ?_)
    · refine zw_b (by omega) ?_
      exact zw_some ⟨hImh, hFmh, ⟨by omega, by omega⟩⟩
    · refine zw_ite (fun h2 => ?_) (fun h2 => ?_)
      · exfalso; omega
      · refine zw_bd (zw_mono (zk_214 n hImh zq_164 ⟨by omega, by omega⟩ ⟨by omega, by omega⟩) (fun v4 m3 hqm3 => ?_))
        obtain ⟨hIm3, hfm3, hvm3⟩ := hqm3
        have hFm3 := zfr_tr hFmh hfm3 rfl
        refine zw_bd (zw_mono (zk_277 n hIm3 zq_141 zq_164) (fun v6 m5 hqm5 => ?_))
        obtain ⟨hIm5, hfm5, hvm5⟩ := hqm5
        have hFm5 := zfr_tr hFm3 hfm5 rfl
        refine zw_ite (fun h7 => ?_) (fun h7 => ?_)
        · have w8 := zu_w32_id (z := x4 + 1) (by omega) (by omega)
          have hM : (200 - (zu_w32 (x4 + 1))) * 1 + 0 < (k : Int) := by omega
          exact ih x3 (zu_w32 (x4 + 1)) m5 hIm5 hFm5 ⟨by omega, by omega⟩ ⟨by omega, by omega⟩ ⟨by omega, by omega⟩ ⟨by omega, by omega⟩ hM
        · refine zw_b (by omega) ?_
          exact zw_some ⟨hIm5, hFm5, ⟨by omega, by omega⟩⟩
set_option maxHeartbeats 4000000 in
theorem zk_302 (n : Nat) {a0 a1 a2 : Int} {m0 : zu_m} (hIm0 : zi_I m0) (hc0 : zcls a0 = 14) (ha1 : 0 ≤ a1 ∧ a1 ≤ 3) (ha2 : 0 ≤ a2 ∧ a2 ≤ 30)    : zw (zu_call (zt_T n) 302 [(33, a0), (0, a1), (0, a2)] m0) (fun v m => zi_I m ∧ zfr [(7, 1), (7, 2), (7, 3), (7, 4), (8, 1), (8, 2), (8, 3), (8, 4), (8, 5), (8, 6), (8, 7), (8, 8), (11, 3), (11, 5), (11, 9), (11, 10), (11, 11), (11, 12), (24, 0), (27, 0), (38, 0), (39, 0)] m0 m ∧ (0 ≤ v ∧ v ≤ 1)) := by
  have hFm0 : zfr [(7, 1), (7, 2), (7, 3), (7, 4), (8, 1), (8, 2), (8, 3), (8, 4), (8, 5), (8, 6), (8, 7), (8, 8), (11, 3), (11, 5), (11, 9), (11, 10), (11, 11), (11, 12), (24, 0), (27, 0), (38, 0), (39, 0)] m0 m0 := zfr_rf _ _
  refine zw_eq (zr_302_0 n a0 a1 a2 m0) ?_
  refine zw_bd (zw_mono (zk_22_11_11 n hIm0 zq_164 zq_63) (fun v10 m9 hqm9 => ?_))
  obtain ⟨hIm9, hfm9, hvm9⟩ := hqm9
  have hFm9 := zfr_tr hFm0 hfm9 rfl
  have b11 : 0 ≤ a1 ∧ a1 < 4 := by omega
  refine zw_if b11 ?_
  generalize hmm12 : zu_up m9 ((164 + 2) + 20 + a1) 4 a2 = m12
  have hIm12 := zi_up hmm12 hIm9 (zc_37_e (zc_11_3 zq_164) b11) zb_8_4 (by omega) (by omega)
  have hFm12 := zfr_up hmm12 hFm9 (zc_37_e (zc_11_3 zq_164) b11) rfl
  refine zw_bd (zw_mono (zk_276 n hIm12 zq_141) (fun v14 m13 hqm13 => ?_))
  obtain ⟨hIm13, hfm13, hvm13⟩ := hqm13
  have hFm13 := zfr_tr hFm12 hfm13 rfl
  have hM : (200 - 0) * 1 + 0 < ((201 : Nat) : Int) := by omega
  exact (zl_302 n (m0 := m0) hc0 201) v14 0 m13 hIm13 hFm13 ⟨by omega, by omega⟩ ⟨by omega, by omega⟩ ⟨by omega, by omega⟩ ⟨by omega, by omega⟩ hM
set_option maxHeartbeats 4000000 in
theorem zl_303 (n : Nat) {a0 a1 a2 a3 a4 : Int} {m0 : zu_m} (hc0 : zcls a0 = 14)  : ∀ k : Nat, (∀ (x5 x6 x7 : Int) (mh : zu_m), zi_I mh → zfr [(7, 1), (7, 2), (7, 3), (7, 4), (8, 1), (8, 2), (8, 3), (8, 4), (8, 5), (8, 6), (8, 7), (8, 8), (11, 3), (11, 5), (11, 9), (11, 10), (11, 11), (11, 12), (24, 0), (27, 0), (38, 0), (39, 0)] m0 mh → (0 ≤ a1 ∧ a1 ≤ 2147483647) → (1 ≤ a2 ∧ a2 ≤ 200) → (0 ≤ a3 ∧ a3 ≤ 3) → (0 ≤ a4 ∧ a4 ≤ 16) → ((-2147483648) ≤ x5 ∧ x5 ≤ 2147483647) → ((-2147483648) ≤ x6 ∧ x6 ≤ 2147483647) → (0 ≤ x7 ∧ x7 ≤ 10) → (10 - x7) * 1 + 0 < (k : Int) → zw (zu_ex (zt_T n) 303 9 [(33, a0), (0, a1), (0, a2), (0, a3), (0, a4), (0, x5), (0, x6), (0, x7)] [] mh) (fun v m => zi_I m ∧ zfr [(7, 1), (7, 2), (7, 3), (7, 4), (8, 1), (8, 2), (8, 3), (8, 4), (8, 5), (8, 6), (8, 7), (8, 8), (11, 3), (11, 5), (11, 9), (11, 10), (11, 11), (11, 12), (24, 0), (27, 0), (38, 0), (39, 0)] m0 m ∧ ((-2147483648) ≤ v ∧ v ≤ 2147483647))) := by
  intro k
  induction k with
  | zero => exact fun x5 x6 x7 mh hImh hFmh hba1 hba2 hba3 hba4 hbx5 hbx6 hbx7 hM => by exfalso; omega
  | succ k ih =>
    intro x5 x6 x7 mh hImh hFmh hba1 hba2 hba3 hba4 hbx5 hbx6 hbx7 hM
    refine zw_eq (zr_303_9 n a0 a1 a2 a3 a4 x5 x6 x7 mh) ?_
    refine zw_ite (fun h1 => ?_) (fun h1 => ?_)
    · exact zw_some ⟨hImh, hFmh, ⟨by omega, by omega⟩⟩
    · refine zw_bd (zw_mono (zk_22_11_11 n hImh zq_164 zq_89) (fun v3 m2 hqm2 => ?_))
      obtain ⟨hIm2, hfm2, hvm2⟩ := hqm2
      have hFm2 := zfr_tr hFmh hfm2 rfl
      generalize hmm4 : zu_up m2 164 9 x6 = m4
      have hIm4 := zi_up hmm4 hIm2 zq_164 zb_11_9 (by omega) (by omega)
      have hFm4 := zfr_up hmm4 hFm2 zq_164 rfl
      refine zw_bd (zw_mono (zk_214 n hIm4 zq_164 ⟨by omega, by omega⟩ ⟨by omega, by omega⟩) (fun v6 m5 hqm5 => ?_))
      obtain ⟨hIm5, hfm5, hvm5⟩ := hqm5
      have hFm5 := zfr_tr hFm4 hfm5 rfl
      have r7 : (-2147483648) ≤ (m5 164 9) ∧ (m5 164 9) ≤ 2147483647 := zi_rd hIm5 zq_164 zb_11_9
      have b8 : 0 ≤ a3 ∧ a3 < 4 := by omega
      refine zw_if b8 ?_
      have r9 : (-2147483648) ≤ (m5 ((164 + 2) + 20 + a3) 6) ∧ (m5 ((164 + 2) + 20 + a3) 6) ≤ 2147483647 := zi_rd hIm5 (zc_37_e (zc_11_3 zq_164) b8) zb_8_6
      refine zw_ite (fun h10 => ?_) (fun h10 => ?_)
      · have w11 := zu_w32_id (z := x7 + 1) (by omega) (by omega)
        have hM : (10 - (zu_w32 (x7 + 1))) * 1 + 0 < (k : Int) := by omega
        exact ih x5 (m5 164 9) (zu_w32 (x7 + 1)) m5 hIm5 hFm5 ⟨by omega, by omega⟩ ⟨by omega, by omega⟩ ⟨by omega, by omega⟩ ⟨by omega, by omega⟩ ⟨by omega, by omega⟩ ⟨by omega, by omega⟩ ⟨by omega, by omega⟩ hM
      · have w12 := zu_w32_rg (x5 + 1)
        have w13 := zu_w32_id (z := x7 + 1) (by omega) (by omega)
        have hM : (10 - (zu_w32 (x7 + 1))) * 1 + 0 < (k : Int) := by omega
        exact ih (zu_w32 (x5 + 1)) (m5 164 9) (zu_w32 (x7 + 1)) m5 hIm5 hFm5 ⟨by omega, by omega⟩ ⟨by omega, by omega⟩ ⟨by omega, by omega⟩ ⟨by omega, by omega⟩ ⟨by omega, by omega⟩ ⟨by omega, by omega⟩ ⟨by omega, by omega⟩ hM
set_option maxHeartbeats 4000000 in
theorem zk_303 (n : Nat) {a0 a1 a2 a3 a4 : Int} {m0 : zu_m} (hIm0 : zi_I m0) (hc0 : zcls a0 = 14) (ha1 : 0 ≤ a1 ∧ a1 ≤ 2147483647) (ha2 : 1 ≤ a2 ∧ a2 ≤ 200) (ha3 : 0 ≤ a3 ∧ a3 ≤ 3) (ha4 : 0 ≤ a4 ∧ a4 ≤ 16)    : zw (zu_call (zt_T n) 303 [(33, a0), (0, a1), (0, a2), (0, a3), (0, a4)] m0) (fun v m => zi_I m ∧ zfr [(7, 1), (7, 2), (7, 3), (7, 4), (8, 1), (8, 2), (8, 3), (8, 4), (8, 5), (8, 6), (8, 7), (8, 8), (11, 3), (11, 5), (11, 9), (11, 10), (11, 11), (11, 12), (24, 0), (27, 0), (38, 0), (39, 0)] m0 m ∧ ((-2147483648) ≤ v ∧ v ≤ 2147483647)) := by
  have hFm0 : zfr [(7, 1), (7, 2), (7, 3), (7, 4), (8, 1), (8, 2), (8, 3), (8, 4), (8, 5), (8, 6), (8, 7), (8, 8), (11, 3), (11, 5), (11, 9), (11, 10), (11, 11), (11, 12), (24, 0), (27, 0), (38, 0), (39, 0)] m0 m0 := zfr_rf _ _
  refine zw_eq (zr_303_0 n a0 a1 a2 a3 a4 m0) ?_
  have hM : (10 - 0) * 1 + 0 < ((11 : Nat) : Int) := by omega
  exact (zl_303 n (m0 := m0) hc0 11) 0 a1 0 m0 hIm0 hFm0 ⟨by omega, by omega⟩ ⟨by omega, by omega⟩ ⟨by omega, by omega⟩ ⟨by omega, by omega⟩ ⟨by omega, by omega⟩ ⟨by omega, by omega⟩ ⟨by omega, by omega⟩ hM
set_option maxHeartbeats 4000000 in
theorem zl_304 (n : Nat) {a0 a1 a2 a3 : Int} {m0 : zu_m} (hc0 : zcls a0 = 14)  : ∀ k : Nat, (∀ (x4 : Int) (mh : zu_m), zi_I mh → zfr [(7, 1), (7, 2), (7, 3), (7, 4), (8, 1), (8, 2), (8, 3), (8, 4), (8, 5), (8, 6), (8, 7), (8, 8), (11, 3), (11, 5), (11, 9), (11, 10), (11, 11), (11, 12), (24, 0), (27, 0), (38, 0), (39, 0)] m0 mh → (0 ≤ a1 ∧ a1 ≤ 4) → (0 ≤ a2 ∧ a2 ≤ 3) → (0 ≤ a3 ∧ a3 ≤ 200) → (0 ≤ x4 ∧ x4 ≤ 4) → (4 - x4) * 1 + 0 < (k : Int) → zw (zu_ex (zt_T n) 304 28 [(33, a0), (0, a1), (0, a2), (0, a3), (0, x4), (2, 0)] [] mh) (fun v m => zi_I m ∧ zfr [(7, 1), (7, 2), (7, 3), (7, 4), (8, 1), (8, 2), (8, 3), (8, 4), (8, 5), (8, 6), (8, 7), (8, 8), (11, 3), (11, 5), (11, 9), (11, 10), (11, 11), (11, 12), (24, 0), (27, 0), (38, 0), (39, 0)] m0 m ∧ ((-2147483648) ≤ v ∧ v ≤ 2147483647))) := by
  intro k
  induction k with
  | zero => exact fun x4 mh hImh hFmh hba1 hba2 hba3 hbx4 hM => by exfalso; omega
  | succ k ih =>
    intro x4 mh hImh hFmh hba1 hba2 hba3 hbx4 hM
    refine zw_eq (zr_304_28 n a0 a1 a2 a3 x4 mh) ?_
    have r1 : 0 ≤ (mh 164 4) ∧ (mh 164 4) ≤ 4 := zi_rd hImh zq_164 zb_11_4
    refine zw_ite (fun h2 => ?_) (fun h2 => ?_)
    · refine zw_bd (zw_mono (zk_214 n hImh zq_164 ⟨by omega, by omega⟩ ⟨by omega, by omega⟩) (fun v4 m3 hqm3 => ?_))
      obtain ⟨hIm3, hfm3, hvm3⟩ := hqm3
      have hFm3 := zfr_tr hFmh hfm3 rfl
      refine zw_bd (zw_mono (zk_234 n hIm3 zq_164) (fun v6 m5 hqm5 => ?_))
      obtain ⟨hIm5, hfm5, hvm5⟩ := hqm5
      have hFm5 := zfr_tr hFm3 hfm5 rfl
      exact zw_some ⟨hIm5, hFm5, ⟨by omega, by omega⟩⟩
    · have b7 : 0 ≤ x4 ∧ x4 < 4 := by omega
      refine zw_if b7 ?_
      refine zw_ite (fun h8 => ?_) (fun h8 => ?_)
      · refine zw_ite (fun h9 => ?_) (fun h9 => ?_)
        · refine zw_ite (fun h10 => ?_) (fun h10 => ?_)
          · refine zw_ite (fun h11 => ?_) (fun h11 => ?_)
            · have w12 := zu_w32_id (z := x4 + 1) (by omega) (by omega)
              have hM : (4 - (zu_w32 (x4 + 1))) * 1 + 0 < (k : Int) := by omega
              exact zw_le (zu_forget (zu_lr_same (zu_lr_same (zu_lr_same (zu_lr_same (zu_lr_same (zu_lr_drop zu_lr_nil))))))) (ih (zu_w32 (x4 + 1)) mh hImh hFmh ⟨by omega, by omega⟩ ⟨by omega, by omega⟩ ⟨by omega, by omega⟩ ⟨by omega, by omega⟩ hM)
            · generalize hmm13 : zu_up mh ((164 + 2) + 20 + x4) 3 0 = m13
              have hIm13 := zi_up hmm13 hImh (zc_37_e (zc_11_3 zq_164) b7) zb_8_3 (by omega) (by omega)
              have hFm13 := zfr_up hmm13 hFmh (zc_37_e (zc_11_3 zq_164) b7) rfl
              have w14 := zu_w32_id (z := x4 + 1) (by omega) (by omega)
              have hM : (4 - (zu_w32 (x4 + 1))) * 1 + 0 < (k : Int) := by omega
              exact zw_le (zu_forget (zu_lr_same (zu_lr_same (zu_lr_same (zu_lr_same (zu_lr_same (zu_lr_drop zu_lr_nil))))))) (ih (zu_w32 (x4 + 1)) m13 hIm13 hFm13 ⟨by omega, by omega⟩ ⟨by omega, by omega⟩ ⟨by omega, by omega⟩ ⟨by omega, by omega⟩ hM)
          · generalize hmm15 : zu_up mh ((164 + 2) + 20 + x4) 4 0 = m15
            have hIm15 := zi_up hmm15 hImh (zc_37_e (zc_11_3 zq_164) b7) zb_8_4 (by omega) (by omega)
            have hFm15 := zfr_up hmm15 hFmh (zc_37_e (zc_11_3 zq_164) b7) rfl
            have w16 := zu_w32_id (z := x4 + 1) (by omega) (by omega)
            have hM : (4 - (zu_w32 (x4 + 1))) * 1 + 0 < (k : Int) := by omega
            exact zw_le (zu_forget (zu_lr_same (zu_lr_same (zu_lr_same (zu_lr_same (zu_lr_same (zu_lr_drop zu_lr_nil))))))) (ih (zu_w32 (x4 + 1)) m15 hIm15 hFm15 ⟨by omega, by omega⟩ ⟨by omega, by omega⟩ ⟨by omega, by omega⟩ ⟨by omega, by omega⟩ hM)
        · refine zw_ite (fun h17 => ?_) (fun h17 => ?_)
          · refine zw_ite (fun h18 => ?_) (fun h18 => ?_)
            · refine zw_ite (fun h19 => ?_) (fun h19 => ?_)
              · have w20 := zu_w32_id (z := x4 + 1) (by omega) (by omega)
                have hM : (4 - (zu_w32 (x4 + 1))) * 1 + 0 < (k : Int) := by omega
                exact zw_le (zu_forget (zu_lr_same (zu_lr_same (zu_lr_same (zu_lr_same (zu_lr_same (zu_lr_drop zu_lr_nil))))))) (ih (zu_w32 (x4 + 1)) mh hImh hFmh ⟨by omega, by omega⟩ ⟨by omega, by omega⟩ ⟨by omega, by omega⟩ ⟨by omega, by omega⟩ hM)
              · exfalso; omega
            · exfalso; omega
          · generalize hmm21 : zu_up mh ((164 + 2) + 20 + x4) 4 1000000 = m21
            have hIm21 := zi_up hmm21 hImh (zc_37_e (zc_11_3 zq_164) b7) zb_8_4 (by omega) (by omega)
            have hFm21 := zfr_up hmm21 hFmh (zc_37_e (zc_11_3 zq_164) b7) rfl
            have w22 := zu_w32_id (z := x4 + 1) (by omega) (by omega)
            have hM : (4 - (zu_w32 (x4 + 1))) * 1 + 0 < (k : Int) := by omega
            exact zw_le (zu_forget (zu_lr_same (zu_lr_same (zu_lr_same (zu_lr_same (zu_lr_same (zu_lr_drop zu_lr_nil))))))) (ih (zu_w32 (x4 + 1)) m21 hIm21 hFm21 ⟨by omega, by omega⟩ ⟨by omega, by omega⟩ ⟨by omega, by omega⟩ ⟨by omega, by omega⟩ hM)
      · generalize hmm23 : zu_up mh ((164 + 2) + 20 + x4) 2 11 = m23
        have hIm23 := zi_up hmm23 hImh (zc_37_e (zc_11_3 zq_164) b7) zb_8_2 (by omega) (by omega)
        have hFm23 := zfr_up hmm23 hFmh (zc_37_e (zc_11_3 zq_164) b7) rfl
        have w24 := zu_w32_id (z := x4 + 1) (by omega) (by omega)
        have hM : (4 - (zu_w32 (x4 + 1))) * 1 + 0 < (k : Int) := by omega
        exact zw_le (zu_forget (zu_lr_same (zu_lr_same (zu_lr_same (zu_lr_same (zu_lr_same (zu_lr_drop zu_lr_nil))))))) (ih (zu_w32 (x4 + 1)) m23 hIm23 hFm23 ⟨by omega, by omega⟩ ⟨by omega, by omega⟩ ⟨by omega, by omega⟩ ⟨by omega, by omega⟩ hM)
set_option maxHeartbeats 4000000 in
theorem zk_304 (n : Nat) {a0 a1 a2 a3 : Int} {m0 : zu_m} (hIm0 : zi_I m0) (hc0 : zcls a0 = 14) (ha1 : 0 ≤ a1 ∧ a1 ≤ 4) (ha2 : 0 ≤ a2 ∧ a2 ≤ 3) (ha3 : 0 ≤ a3 ∧ a3 ≤ 200)    : zw (zu_call (zt_T n) 304 [(33, a0), (0, a1), (0, a2), (0, a3)] m0) (fun v m => zi_I m ∧ zfr [(7, 1), (7, 2), (7, 3), (7, 4), (8, 1), (8, 2), (8, 3), (8, 4), (8, 5), (8, 6), (8, 7), (8, 8), (11, 3), (11, 5), (11, 9), (11, 10), (11, 11), (11, 12), (24, 0), (27, 0), (38, 0), (39, 0)] m0 m ∧ ((-2147483648) ≤ v ∧ v ≤ 2147483647)) := by
  have hFm0 : zfr [(7, 1), (7, 2), (7, 3), (7, 4), (8, 1), (8, 2), (8, 3), (8, 4), (8, 5), (8, 6), (8, 7), (8, 8), (11, 3), (11, 5), (11, 9), (11, 10), (11, 11), (11, 12), (24, 0), (27, 0), (38, 0), (39, 0)] m0 m0 := zfr_rf _ _
  refine zw_eq (zr_304_0 n a0 a1 a2 a3 m0) ?_
  refine zw_bd (zw_mono (zk_22_11_11 n hIm0 zq_164 zq_89) (fun v26 m25 hqm25 => ?_))
  obtain ⟨hIm25, hfm25, hvm25⟩ := hqm25
  have hFm25 := zfr_tr hFm0 hfm25 rfl
  refine zw_ite (fun h27 => ?_) (fun h27 => ?_)
  · have hM : (4 - 0) * 1 + 0 < ((5 : Nat) : Int) := by omega
    exact (zl_304 n (m0 := m0) hc0 5) 0 m25 hIm25 hFm25 ⟨by omega, by omega⟩ ⟨by omega, by omega⟩ ⟨by omega, by omega⟩ ⟨by omega, by omega⟩ hM
  · generalize hmm28 : zu_up m25 164 11 1000000 = m28
    have hIm28 := zi_up hmm28 hIm25 zq_164 zb_11_11 (by omega) (by omega)
    have hFm28 := zfr_up hmm28 hFm25 zq_164 rfl
    have hM : (4 - 0) * 1 + 0 < ((5 : Nat) : Int) := by omega
    exact (zl_304 n (m0 := m0) hc0 5) 0 m28 hIm28 hFm28 ⟨by omega, by omega⟩ ⟨by omega, by omega⟩ ⟨by omega, by omega⟩ ⟨by omega, by omega⟩ hM
set_option maxHeartbeats 4000000 in
theorem zl_12 (n : Nat) {a0 a1 : Int} {m0 : zu_m} (hc0 : zcls a0 = 3)  : ∀ k : Nat, (∀ (x2 x3 : Int) (mh : zu_m), zi_I mh → zfr [(3, 5), (3, 6), (3, 7), (3, 8), (3, 9), (3, 10), (3, 11), (4, 1), (4, 2), (4, 3), (4, 4), (4, 5), (4, 6), (5, 6), (5, 7), (6, 3), (6, 5), (6, 9), (6, 10), (6, 11), (6, 12), (7, 1), (7, 2), (7, 3), (7, 4), (8, 1), (8, 2), (8, 3), (8, 4), (8, 5), (8, 6), (8, 7), (9, 3), (9, 4), (9, 5), (9, 6), (9, 7), (10, 4), (10, 5), (10, 7), (10, 8), (17, 0), (18, 0), (19, 0), (20, 0), (21, 0), (22, 0), (23, 0), (30, 0), (31, 0), (34, 0), (35, 0)] m0 mh → (0 ≤ a1 ∧ a1 ≤ 700) → ((-2147483648) ≤ x2 ∧ x2 ≤ 2147483647) → (0 ≤ x3 ∧ x3 ≤ 701) → (0 ≤ mh 19 9 ∧ mh 19 9 ≤ 0) → (701 - x3) * 1 + 0 < (k : Int) → zw (zu_ex (zt_T n) 12 51 [(7, a0), (0, a1), (0, x2), (0, x3)] [] mh) (fun v m => zi_I m ∧ zfr [(3, 5), (3, 6), (3, 7), (3, 8), (3, 9), (3, 10), (3, 11), (4, 1), (4, 2), (4, 3), (4, 4), (4, 5), (4, 6), (5, 6), (5, 7), (6, 3), (6, 5), (6, 9), (6, 10), (6, 11), (6, 12), (7, 1), (7, 2), (7, 3), (7, 4), (8, 1), (8, 2), (8, 3), (8, 4), (8, 5), (8, 6), (8, 7), (9, 3), (9, 4), (9, 5), (9, 6), (9, 7), (10, 4), (10, 5), (10, 7), (10, 8), (17, 0), (18, 0), (19, 0), (20, 0), (21, 0), (22, 0), (23, 0), (30, 0), (31, 0), (34, 0), (35, 0)] m0 m ∧ ((-2147483648) ≤ v ∧ v ≤ 2147483647) ∧ (0 ≤ m 19 9 ∧ m 19 9 ≤ 99999))) := by
  intro k
  induction k with
  | zero => exact fun x2 x3 mh hImh hFmh hba1 hbx2 hbx3 hg3 hM => by exfalso; omega
  | succ k ih =>
    intro x2 x3 mh hImh hFmh hba1 hbx2 hbx3 hg3 hM
    refine zw_eq (zr_12_51 n a0 a1 x2 x3 mh) ?_
    refine zw_ite (fun h1 => ?_) (fun h1 => ?_)
    · have r2 : 0 ≤ (mh 6 5) ∧ (mh 6 5) ≤ 99999 := zi_rd hImh zq_6 zb_4_5
      generalize hmm3 : zu_up mh 19 9 (mh 6 5) = m3
      have hIm3 := zi_up hmm3 hImh zq_19 zb_6_9 (by omega) (by omega)
      have hFm3 := zfr_up hmm3 hFmh zq_19 rfl
      have r4 : (-2147483648) ≤ (m3 19 9) ∧ (m3 19 9) ≤ 2147483647 := zi_rd hIm3 zq_19 zb_6_9
      have e5 : (m3 19 9) = (mh 6 5) := (zs_eq hmm3)
      exact zw_some ⟨hIm3, hFm3, ⟨by omega, by omega⟩, ⟨by omega, by omega⟩⟩
    · refine zw_bd (zw_mono (zk_18 n hImh zq_45) (fun v7 m6 hqm6 => ?_))
      obtain ⟨hIm6, hfm6, hvm6⟩ := hqm6
      have hFm6 := zfr_tr hFmh hfm6 rfl
      have r8 : 0 ≤ (m6 45 4) ∧ (m6 45 4) ≤ 5 := zi_rd hIm6 zq_45 zb_9_4
      refine zw_ite (fun h9 => ?_) (fun h9 => ?_)
      · have r10 : 0 ≤ (m6 6 5) ∧ (m6 6 5) ≤ 99999 := zi_rd hIm6 zq_6 zb_4_5
        generalize hmm11 : zu_up m6 19 9 (m6 6 5) = m11
        have hIm11 := zi_up hmm11 hIm6 zq_19 zb_6_9 (by omega) (by omega)
        have hFm11 := zfr_up hmm11 hFm6 zq_19 rfl
        have r12 : (-2147483648) ≤ (m11 19 9) ∧ (m11 19 9) ≤ 2147483647 := zi_rd hIm11 zq_19 zb_6_9
        have e13 : (m11 19 9) = (m6 6 5) := (zs_eq hmm11)
        exact zw_some ⟨hIm11, hFm11, ⟨by omega, by omega⟩, ⟨by omega, by omega⟩⟩
      · refine zw_bd (zw_mono (zk_258 n hIm6 hc0 ⟨by omega, by omega⟩) (fun v15 m14 hqm14 => ?_))
        obtain ⟨hIm14, hfm14, hvm14⟩ := hqm14
        have hFm14 := zfr_tr hFm6 hfm14 rfl
        refine zw_ite (fun h16 => ?_) (fun h16 => ?_)
        · have w17 := zu_w32_rg (x2 + 1)
          have w18 := zu_w32_id (z := x3 + 1) (by omega) (by omega)
          have r19 : (-2147483648) ≤ (m14 19 9) ∧ (m14 19 9) ≤ 2147483647 := zi_rd hIm14 zq_19 zb_6_9
          have e20 : (m14 19 9) = (mh 19 9) := (Eq.trans (zfr_ap hfm14 zq_19 rfl) (zfr_ap hfm6 zq_19 rfl))
          have hM : (701 - (zu_w32 (x3 + 1))) * 1 + 0 < (k : Int) := by omega
          exact ih (zu_w32 (x2 + 1)) (zu_w32 (x3 + 1)) m14 hIm14 hFm14 ⟨by omega, by omega⟩ ⟨by omega, by omega⟩ ⟨by omega, by omega⟩ ⟨by omega, by omega⟩ hM
        · have r21 : 0 ≤ (m14 6 5) ∧ (m14 6 5) ≤ 99999 := zi_rd hIm14 zq_6 zb_4_5
          generalize hmm22 : zu_up m14 19 9 (m14 6 5) = m22
          have hIm22 := zi_up hmm22 hIm14 zq_19 zb_6_9 (by omega) (by omega)
          have hFm22 := zfr_up hmm22 hFm14 zq_19 rfl
          have r23 : (-2147483648) ≤ (m22 19 9) ∧ (m22 19 9) ≤ 2147483647 := zi_rd hIm22 zq_19 zb_6_9
          have e24 : (m22 19 9) = (m14 6 5) := (zs_eq hmm22)
          exact zw_some ⟨hIm22, hFm22, ⟨by omega, by omega⟩, ⟨by omega, by omega⟩⟩
set_option maxHeartbeats 4000000 in
theorem zk_12 (n : Nat) {a0 a1 : Int} {m0 : zu_m} (hIm0 : zi_I m0) (hc0 : zcls a0 = 3) (ha1 : 0 ≤ a1 ∧ a1 ≤ 700)    : zw (zu_call (zt_T n) 12 [(7, a0), (0, a1)] m0) (fun v m => zi_I m ∧ zfr [(3, 5), (3, 6), (3, 7), (3, 8), (3, 9), (3, 10), (3, 11), (4, 1), (4, 2), (4, 3), (4, 4), (4, 5), (4, 6), (5, 6), (5, 7), (6, 3), (6, 5), (6, 9), (6, 10), (6, 11), (6, 12), (7, 1), (7, 2), (7, 3), (7, 4), (8, 1), (8, 2), (8, 3), (8, 4), (8, 5), (8, 6), (8, 7), (9, 3), (9, 4), (9, 5), (9, 6), (9, 7), (10, 4), (10, 5), (10, 7), (10, 8), (17, 0), (18, 0), (19, 0), (20, 0), (21, 0), (22, 0), (23, 0), (30, 0), (31, 0), (34, 0), (35, 0)] m0 m ∧ ((-2147483648) ≤ v ∧ v ≤ 2147483647) ∧ (0 ≤ m 19 9 ∧ m 19 9 ≤ 99999)) := by
  have hFm0 : zfr [(3, 5), (3, 6), (3, 7), (3, 8), (3, 9), (3, 10), (3, 11), (4, 1), (4, 2), (4, 3), (4, 4), (4, 5), (4, 6), (5, 6), (5, 7), (6, 3), (6, 5), (6, 9), (6, 10), (6, 11), (6, 12), (7, 1), (7, 2), (7, 3), (7, 4), (8, 1), (8, 2), (8, 3), (8, 4), (8, 5), (8, 6), (8, 7), (9, 3), (9, 4), (9, 5), (9, 6), (9, 7), (10, 4), (10, 5), (10, 7), (10, 8), (17, 0), (18, 0), (19, 0), (20, 0), (21, 0), (22, 0), (23, 0), (30, 0), (31, 0), (34, 0), (35, 0)] m0 m0 := zfr_rf _ _
  refine zw_eq (zr_12_0 n a0 a1 m0) ?_
  refine zw_bd (zw_mono (zk_13 n hIm0 zq_6) (fun v26 m25 hqm25 => ?_))
  obtain ⟨hIm25, hfm25, hvm25⟩ := hqm25
  have hFm25 := zfr_tr hFm0 hfm25 rfl
  refine zw_bd (zw_mono (zk_16 n hIm25 zq_19) (fun v28 m27 hqm27 => ?_))
  obtain ⟨hIm27, hfm27, hvm27⟩ := hqm27
  have hFm27 := zfr_tr hFm25 hfm27 rfl
  generalize hmm29 : zu_up m27 a0 4 0 = m29
  have hIm29 := zi_up hmm29 hIm27 hc0 zb_3_4 (by omega) (by omega)
  have hFm29 := zfr_up hmm29 hFm27 hc0 rfl
  generalize hmm30 : zu_up m29 a0 5 0 = m30
  have hIm30 := zi_up hmm30 hIm29 hc0 zb_3_5 (by omega) (by omega)
  have hFm30 := zfr_up hmm30 hFm29 hc0 rfl
  refine zw_b (by omega) ?_
  generalize hmm31 : zu_up m30 a0 6 0 = m31
  have hIm31 := zi_up hmm31 hIm30 hc0 zb_3_6 (by omega) (by omega)
  have hFm31 := zfr_up hmm31 hFm30 hc0 rfl
  generalize hmm32 : zu_up m31 a0 9 0 = m32
  have hIm32 := zi_up hmm32 hIm31 hc0 zb_3_9 (by omega) (by omega)
  have hFm32 := zfr_up hmm32 hFm31 hc0 rfl
  generalize hmm33 : zu_up m32 a0 10 (-1) = m33
  have hIm33 := zi_up hmm33 hIm32 hc0 zb_3_10 (by omega) (by omega)
  have hFm33 := zfr_up hmm33 hFm32 hc0 rfl
  refine zw_bd (zw_mono (zk_17 n hIm33 zq_45 ⟨by omega, by omega⟩) (fun v35 m34 hqm34 => ?_))
  obtain ⟨hIm34, hfm34, hvm34⟩ := hqm34
  have hFm34 := zfr_tr hFm33 hfm34 rfl
  have r36 : (-2147483648) ≤ (m34 19 9) ∧ (m34 19 9) ≤ 2147483647 := zi_rd hIm34 zq_19 zb_6_9
  have e37 : (m34 19 9) = (m27 19 9) := (Eq.trans (zfr_ap hfm34 zq_19 rfl) (Eq.trans (zs_ne hmm33 (Or.inl (zc_ne zq_19 hc0 (by decide)))) (Eq.trans (zs_ne hmm32 (Or.inl (zc_ne zq_19 hc0 (by decide)))) (Eq.trans (zs_ne hmm31 (Or.inl (zc_ne zq_19 hc0 (by decide)))) (Eq.trans (zs_ne hmm30 (Or.inl (zc_ne zq_19 hc0 (by decide)))) (zs_ne hmm29 (Or.inl (zc_ne zq_19 hc0 (by decide)))))))))
  have hM : (701 - 0) * 1 + 0 < ((702 : Nat) : Int) := by omega
  exact (zl_12 n (m0 := m0) hc0 702) 0 0 m34 hIm34 hFm34 ⟨by omega, by omega⟩ ⟨by omega, by omega⟩ ⟨by omega, by omega⟩ ⟨by omega, by omega⟩ hM
set_option maxHeartbeats 4000000 in
theorem zl_31 (n : Nat) {a0 : Int} {m0 : zu_m} (hc0 : zcls a0 = 15)  : ∀ k : Nat, (∀ (x1 : Int) (mh : zu_m), zi_I mh → zfr [(15, 13), (15, 14), (15, 15), (15, 16), (15, 17), (15, 54), (15, 63), (15, 64), (15, 65), (15, 66), (15, 67), (15, 68), (15, 69), (15, 70), (15, 78), (15, 79), (15, 82), (15, 84), (64, 0), (65, 0), (67, 0), (68, 0), (69, 0), (70, 0), (71, 0), (72, 0), (73, 0), (74, 0), (75, 0), (76, 0), (77, 0), (78, 0), (79, 0), (80, 0), (83, 0), (84, 0), (85, 0), (86, 0), (87, 0), (88, 0), (89, 0), (90, 0), (91, 0), (92, 0)] m0 mh → (0 ≤ x1 ∧ x1 ≤ 4) → (4 - x1) * 1 + 0 < (k : Int) → zw (zu_ex (zt_T n) 31 126 [(40, a0), (0, x1)] [] mh) (fun v m => zi_I m ∧ zfr [(15, 13), (15, 14), (15, 15), (15, 16), (15, 17), (15, 54), (15, 63), (15, 64), (15, 65), (15, 66), (15, 67), (15, 68), (15, 69), (15, 70), (15, 78), (15, 79), (15, 82), (15, 84), (64, 0), (65, 0), (67, 0), (68, 0), (69, 0), (70, 0), (71, 0), (72, 0), (73, 0), (74, 0), (75, 0), (76, 0), (77, 0), (78, 0), (79, 0), (80, 0), (83, 0), (84, 0), (85, 0), (86, 0), (87, 0), (88, 0), (89, 0), (90, 0), (91, 0), (92, 0)] m0 m ∧ True)) := by
  intro k
  induction k with
  | zero => exact fun x1 mh hImh hFmh hbx1 hM => by exfalso; omega
  | succ k ih =>
    intro x1 mh hImh hFmh hbx1 hM
    refine zw_eq (zr_31_126 n a0 x1 mh) ?_
    refine zw_ite (fun h1 => ?_) (fun h1 => ?_)
    · refine zw_bd (zw_mono (zk_32_76 n hImh zq_206 ⟨by omega, by omega⟩) (fun v3 m2 hqm2 => ?_))
      obtain ⟨hIm2, hfm2, hvm2⟩ := hqm2
      have hFm2 := zfr_tr hFmh hfm2 rfl
      refine zw_bd (zw_mono (zk_32_77 n hIm2 zq_207 ⟨by omega, by omega⟩) (fun v5 m4 hqm4 => ?_))
      obtain ⟨hIm4, hfm4, hvm4⟩ := hqm4
      have hFm4 := zfr_tr hFm2 hfm4 rfl
      refine zw_bd (zw_mono (zk_32_78 n hIm4 zq_208 ⟨by omega, by omega⟩) (fun v7 m6 hqm6 => ?_))
      obtain ⟨hIm6, hfm6, hvm6⟩ := hqm6
      have hFm6 := zfr_tr hFm4 hfm6 rfl
      refine zw_bd (zw_mono (zk_32_79 n hIm6 zq_209 ⟨by omega, by omega⟩) (fun v9 m8 hqm8 => ?_))
      obtain ⟨hIm8, hfm8, hvm8⟩ := hqm8
      have hFm8 := zfr_tr hFm6 hfm8 rfl
      refine zw_bd (zw_mono (zk_32_80 n hIm8 zq_210 ⟨by omega, by omega⟩) (fun v11 m10 hqm10 => ?_))
      obtain ⟨hIm10, hfm10, hvm10⟩ := hqm10
      have hFm10 := zfr_tr hFm8 hfm10 rfl
      refine zw_bd (zw_mono (zk_33 n hIm10 hc0) (fun v13 m12 hqm12 => ?_))
      obtain ⟨hIm12, hfm12, hvm12⟩ := hqm12
      have hFm12 := zfr_tr hFm10 hfm12 rfl
      exact zw_some ⟨hIm12, hFm12, trivial⟩
    · have w14 := zu_w32_id (z := 4 + x1) (by omega) (by omega)
      have b15 : 0 ≤ (zu_w32 (4 + x1)) ∧ (zu_w32 (4 + x1)) < 8 := by omega
      refine zw_if b15 ?_
      have r16 : 0 ≤ (mh 205 (zu_w32 (4 + x1))) ∧ (mh 205 (zu_w32 (4 + x1))) ≤ 1 := zi_rd hImh zq_205 (zb_75 _)
      refine zw_b (by omega) ?_
      have b17 : 0 ≤ x1 ∧ x1 < 8 := by omega
      refine zw_if b17 ?_
      generalize hmm18 : zu_up mh 205 x1 (mh 205 (zu_w32 (4 + x1))) = m18
      have hIm18 := zi_up hmm18 hImh zq_205 (zb_75 _) (by omega) (by omega)
      have hFm18 := zfr_up hmm18 hFmh zq_205 rfl
      have w19 := zu_w32_id (z := x1 + 1) (by omega) (by omega)
      have hM : (4 - (zu_w32 (x1 + 1))) * 1 + 0 < (k : Int) := by omega
      exact ih (zu_w32 (x1 + 1)) m18 hIm18 hFm18 ⟨by omega, by omega⟩ hM
set_option maxHeartbeats 4000000 in
theorem zk_31 (n : Nat) {a0 : Int} {m0 : zu_m} (hIm0 : zi_I m0) (hc0 : zcls a0 = 15)     : zw (zu_call (zt_T n) 31 [(40, a0)] m0) (fun v m => zi_I m ∧ zfr [(15, 13), (15, 14), (15, 15), (15, 16), (15, 17), (15, 54), (15, 63), (15, 64), (15, 65), (15, 66), (15, 67), (15, 68), (15, 69), (15, 70), (15, 78), (15, 79), (15, 82), (15, 84), (64, 0), (65, 0), (67, 0), (68, 0), (69, 0), (70, 0), (71, 0), (72, 0), (73, 0), (74, 0), (75, 0), (76, 0), (77, 0), (78, 0), (79, 0), (80, 0), (83, 0), (84, 0), (85, 0), (86, 0), (87, 0), (88, 0), (89, 0), (90, 0), (91, 0), (92, 0)] m0 m ∧ True) := by
  have hFm0 : zfr [(15, 13), (15, 14), (15, 15), (15, 16), (15, 17), (15, 54), (15, 63), (15, 64), (15, 65), (15, 66), (15, 67), (15, 68), (15, 69), (15, 70), (15, 78), (15, 79), (15, 82), (15, 84), (64, 0), (65, 0), (67, 0), (68, 0), (69, 0), (70, 0), (71, 0), (72, 0), (73, 0), (74, 0), (75, 0), (76, 0), (77, 0), (78, 0), (79, 0), (80, 0), (83, 0), (84, 0), (85, 0), (86, 0), (87, 0), (88, 0), (89, 0), (90, 0), (91, 0), (92, 0)] m0 m0 := zfr_rf _ _
  refine zw_eq (zr_31_0 n a0 m0) ?_
  have r20 : 1 ≤ (m0 a0 17) ∧ (m0 a0 17) ≤ 8 := zi_rd hIm0 hc0 zb_15_17
  generalize hmm21 : zu_up m0 a0 12 (m0 a0 17) = m21
  have hIm21 := zi_up hmm21 hIm0 hc0 zb_15_12 (by omega) (by omega)
  have hFm21 := zfr_up hmm21 hFm0 hc0 rfl
  have r22 : 1 ≤ (m21 a0 18) ∧ (m21 a0 18) ≤ 6 := zi_rd hIm21 hc0 zb_15_18
  generalize hmm23 : zu_up m21 a0 13 (m21 a0 18) = m23
  have hIm23 := zi_up hmm23 hIm21 hc0 zb_15_13 (by omega) (by omega)
  have hFm23 := zfr_up hmm23 hFm21 hc0 rfl
  have r24 : 0 ≤ (m23 a0 19) ∧ (m23 a0 19) ≤ 12 := zi_rd hIm23 hc0 zb_15_19
  generalize hmm25 : zu_up m23 a0 14 (m23 a0 19) = m25
  have hIm25 := zi_up hmm25 hIm23 hc0 zb_15_14 (by omega) (by omega)
  have hFm25 := zfr_up hmm25 hFm23 hc0 rfl
  have r26 : 0 ≤ (m25 a0 20) ∧ (m25 a0 20) ≤ 4 := zi_rd hIm25 hc0 zb_15_20
  generalize hmm27 : zu_up m25 a0 15 (m25 a0 20) = m27
  have hIm27 := zi_up hmm27 hIm25 hc0 zb_15_15 (by omega) (by omega)
  have hFm27 := zfr_up hmm27 hFm25 hc0 rfl
  have r28 : 0 ≤ (m27 a0 21) ∧ (m27 a0 21) ≤ 64 := zi_rd hIm27 hc0 zb_15_21
  generalize hmm29 : zu_up m27 a0 16 (m27 a0 21) = m29
  have hIm29 := zi_up hmm29 hIm27 hc0 zb_15_16 (by omega) (by omega)
  have hFm29 := zfr_up hmm29 hFm27 hc0 rfl
  refine zw_bd (zw_mono (zk_32_64 n hIm29 zq_194 ⟨by omega, by omega⟩) (fun v31 m30 hqm30 => ?_))
  obtain ⟨hIm30, hfm30, hvm30⟩ := hqm30
  have hFm30 := zfr_tr hFm29 hfm30 rfl
  refine zw_bd (zw_mono (zk_32_65 n hIm30 zq_195 ⟨by omega, by omega⟩) (fun v33 m32 hqm32 => ?_))
  obtain ⟨hIm32, hfm32, hvm32⟩ := hqm32
  have hFm32 := zfr_tr hFm30 hfm32 rfl
  refine zw_bd (zw_mono (zk_32_67 n hIm32 zq_197 ⟨by omega, by omega⟩) (fun v35 m34 hqm34 => ?_))
  obtain ⟨hIm34, hfm34, hvm34⟩ := hqm34
  have hFm34 := zfr_tr hFm32 hfm34 rfl
  refine zw_bd (zw_mono (zk_32_68 n hIm34 zq_198 ⟨by omega, by omega⟩) (fun v37 m36 hqm36 => ?_))
  obtain ⟨hIm36, hfm36, hvm36⟩ := hqm36
  have hFm36 := zfr_tr hFm34 hfm36 rfl
  refine zw_bd (zw_mono (zk_32_69 n hIm36 zq_199 ⟨by omega, by omega⟩) (fun v39 m38 hqm38 => ?_))
  obtain ⟨hIm38, hfm38, hvm38⟩ := hqm38
  have hFm38 := zfr_tr hFm36 hfm38 rfl
  refine zw_bd (zw_mono (zk_32_70 n hIm38 zq_200 ⟨by omega, by omega⟩) (fun v41 m40 hqm40 => ?_))
  obtain ⟨hIm40, hfm40, hvm40⟩ := hqm40
  have hFm40 := zfr_tr hFm38 hfm40 rfl
  refine zw_bd (zw_mono (zk_32_71 n hIm40 zq_201 ⟨by omega, by omega⟩) (fun v43 m42 hqm42 => ?_))
  obtain ⟨hIm42, hfm42, hvm42⟩ := hqm42
  have hFm42 := zfr_tr hFm40 hfm42 rfl
  refine zw_bd (zw_mono (zk_32_72 n hIm42 zq_202 ⟨by omega, by omega⟩) (fun v45 m44 hqm44 => ?_))
  obtain ⟨hIm44, hfm44, hvm44⟩ := hqm44
  have hFm44 := zfr_tr hFm42 hfm44 rfl
  refine zw_bd (zw_mono (zk_32_73 n hIm44 zq_203 ⟨by omega, by omega⟩) (fun v47 m46 hqm46 => ?_))
  obtain ⟨hIm46, hfm46, hvm46⟩ := hqm46
  have hFm46 := zfr_tr hFm44 hfm46 rfl
  refine zw_bd (zw_mono (zk_32_74 n hIm46 zq_204 ⟨by omega, by omega⟩) (fun v49 m48 hqm48 => ?_))
  obtain ⟨hIm48, hfm48, hvm48⟩ := hqm48
  have hFm48 := zfr_tr hFm46 hfm48 rfl
  have hM : (4 - 0) * 1 + 0 < ((5 : Nat) : Int) := by omega
  exact (zl_31 n (m0 := m0) hc0 5) 0 m48 hIm48 hFm48 ⟨by omega, by omega⟩ hM
set_option maxHeartbeats 4000000 in
theorem zk_62 (n : Nat) {a0 a1 a2 : Int} {m0 : zu_m} (hIm0 : zi_I m0) (hc0 : zcls a0 = 2) (ha1 : (-2147483648) ≤ a1 ∧ a1 ≤ 2147483647) (ha2 : (-2147483648) ≤ a2 ∧ a2 ≤ 2147483647)    : zw (zu_call (zt_T n) 62 [(5, a0), (0, a1), (0, a2)] m0) (fun v m => zi_I m ∧ zfr [(7, 1), (7, 2), (7, 3), (7, 4), (8, 1), (8, 2), (8, 3), (8, 4), (8, 5), (8, 6), (8, 7), (8, 8), (11, 3), (11, 5), (11, 9), (11, 10), (11, 11), (11, 12), (14, 16), (24, 0), (27, 0), (38, 0), (39, 0)] m0 m ∧ ((-2147483648) ≤ v ∧ v ≤ 1000000)) := by
  have hFm0 : zfr [(7, 1), (7, 2), (7, 3), (7, 4), (8, 1), (8, 2), (8, 3), (8, 4), (8, 5), (8, 6), (8, 7), (8, 8), (11, 3), (11, 5), (11, 9), (11, 10), (11, 11), (11, 12), (14, 16), (24, 0), (27, 0), (38, 0), (39, 0)] m0 m0 := zfr_rf _ _
  refine zw_eq (zr_62_0 n a0 a1 a2 m0) ?_
  refine zw_bd (zw_eq (zr_53_0 n a1 m0) ?_)
  refine zw_ite (fun h1 => ?_) (fun h1 => ?_)
  · refine zw_b (by omega) ?_
    refine zw_some ?_
    refine zw_ite (fun h2 => ?_) (fun h2 => ?_)
    · exact zw_some ⟨hIm0, hFm0, ⟨by omega, by omega⟩⟩
    · exfalso; omega
  · refine zw_ite (fun h3 => ?_) (fun h3 => ?_)
    · refine zw_b (by omega) ?_
      refine zw_some ?_
      refine zw_ite (fun h4 => ?_) (fun h4 => ?_)
      · exact zw_some ⟨hIm0, hFm0, ⟨by omega, by omega⟩⟩
      · exfalso; omega
    · refine zw_b (by omega) ?_
      refine zw_some ?_
      refine zw_ite (fun h5 => ?_) (fun h5 => ?_)
      · exfalso; omega
      · refine zw_ite (fun h6 => ?_) (fun h6 => ?_)
        · exact zw_some ⟨hIm0, hFm0, ⟨by omega, by omega⟩⟩
        · refine zw_ite (fun h7 => ?_) (fun h7 => ?_)
          · exact zw_some ⟨hIm0, hFm0, ⟨by omega, by omega⟩⟩
          · have r8 : 0 ≤ (m0 89 4) ∧ (m0 89 4) ≤ 4 := zi_rd hIm0 zq_89 zb_11_4
            refine zw_ite (fun h9 => ?_) (fun h9 => ?_)
            · refine zw_bd (zw_mono (zk_298 n hIm0 zq_153 ⟨by omega, by omega⟩ ⟨by omega, by omega⟩) (fun v11 m10 hqm10 => ?_))
              obtain ⟨hIm10, hfm10, hvm10⟩ := hqm10
              have hFm10 := zfr_tr hFm0 hfm10 rfl
              refine zw_ite (fun h12 => ?_) (fun h12 => ?_)
              · exact zw_some ⟨hIm10, hFm10, ⟨by omega, by omega⟩⟩
              · exact zw_some ⟨hIm10, hFm10, ⟨by omega, by omega⟩⟩
            · exact zw_some ⟨hIm0, hFm0, ⟨by omega, by omega⟩⟩
set_option maxHeartbeats 4000000 in
theorem zk_63 (n : Nat) {a0 a1 a2 : Int} {m0 : zu_m} (hIm0 : zi_I m0) (hc0 : zcls a0 = 2) (ha1 : (-2147483648) ≤ a1 ∧ a1 ≤ 2147483647) (ha2 : (-2147483648) ≤ a2 ∧ a2 ≤ 2147483647)    : zw (zu_call (zt_T n) 63 [(5, a0), (0, a1), (0, a2)] m0) (fun v m => zi_I m ∧ zfr [(7, 1), (7, 2), (7, 3), (7, 4), (8, 1), (8, 2), (8, 3), (8, 4), (8, 5), (8, 6), (8, 7), (8, 8), (11, 3), (11, 5), (11, 9), (11, 10), (11, 11), (11, 12), (24, 0), (27, 0), (38, 0), (39, 0)] m0 m ∧ ((-2147483648) ≤ v ∧ v ≤ 2147483647)) := by
  have hFm0 : zfr [(7, 1), (7, 2), (7, 3), (7, 4), (8, 1), (8, 2), (8, 3), (8, 4), (8, 5), (8, 6), (8, 7), (8, 8), (11, 3), (11, 5), (11, 9), (11, 10), (11, 11), (11, 12), (24, 0), (27, 0), (38, 0), (39, 0)] m0 m0 := zfr_rf _ _
  refine zw_eq (zr_63_0 n a0 a1 a2 m0) ?_
  refine zw_ite (fun h1 => ?_) (fun h1 => ?_)
  · exact zw_some ⟨hIm0, hFm0, ⟨by omega, by omega⟩⟩
  · refine zw_ite (fun h2 => ?_) (fun h2 => ?_)
    · exact zw_some ⟨hIm0, hFm0, ⟨by omega, by omega⟩⟩
    · refine zw_bd (zw_eq (zr_53_0 n a2 m0) ?_)
      refine zw_ite (fun h3 => ?_) (fun h3 => ?_)
      · refine zw_b (by omega) ?_
        refine zw_some ?_
        refine zw_ite (fun h4 => ?_) (fun h4 => ?_)
        · exfalso; omega
        · exact zw_some ⟨hIm0, hFm0, ⟨by omega, by omega⟩⟩
      · refine zw_ite (fun h5 => ?_) (fun h5 => ?_)
        · refine zw_b (by omega) ?_
          refine zw_some ?_
          refine zw_ite (fun h6 => ?_) (fun h6 => ?_)
          · exfalso; omega
          · exact zw_some ⟨hIm0, hFm0, ⟨by omega, by omega⟩⟩
        · refine zw_b (by omega) ?_
          refine zw_some ?_
          refine zw_ite (fun h7 => ?_) (fun h7 => ?_)
          · refine zw_bd (zw_mono (zk_299 n hIm0 zq_153 ⟨by omega, by omega⟩ ⟨by omega, by omega⟩) (fun v9 m8 hqm8 => ?_))
            obtain ⟨hIm8, hfm8, hvm8⟩ := hqm8
            have hFm8 := zfr_tr hFm0 hfm8 rfl
            exact zw_some ⟨hIm8, hFm8, ⟨by omega, by omega⟩⟩
          · exfalso; omega
set_option maxHeartbeats 4000000 in
theorem zk_70 (n : Nat) {a0 a1 : Int} {m0 : zu_m} (hIm0 : zi_I m0) (hc0 : zcls a0 = 2) (ha1 : (-2147483648) ≤ a1 ∧ a1 ≤ 2147483647)    : zw (zu_call (zt_T n) 70 [(5, a0), (0, a1)] m0) (fun v m => zi_I m ∧ zfr [(24, 0), (27, 0)] m0 m ∧ ((-8) ≤ v ∧ v ≤ 15)) := by
  have hFm0 : zfr [(24, 0), (27, 0)] m0 m0 := zfr_rf _ _
  refine zw_eq (zr_70_0 n a0 a1 m0) ?_
  refine zw_ite (fun h1 => ?_) (fun h1 => ?_)
  · exact zw_some ⟨hIm0, hFm0, ⟨by omega, by omega⟩⟩
  · refine zw_ite (fun h2 => ?_) (fun h2 => ?_)
    · refine zw_bd (zw_mono (zk_241 n hIm0 zq_89 ⟨by omega, by omega⟩) (fun v4 m3 hqm3 => ?_))
      obtain ⟨hIm3, hfm3, hvm3⟩ := hqm3
      have hFm3 := zfr_tr hFm0 hfm3 rfl
      exact zw_some ⟨hIm3, hFm3, ⟨by omega, by omega⟩⟩
    · exact zw_some ⟨hIm0, hFm0, ⟨by omega, by omega⟩⟩
set_option maxHeartbeats 4000000 in
theorem zk_76 (n : Nat) {a0 a1 a2 a3 a4 : Int} {m0 : zu_m} (hIm0 : zi_I m0) (hc0 : zcls a0 = 2) (ha1 : (-2147483648) ≤ a1 ∧ a1 ≤ 2147483647) (ha2 : (-2147483648) ≤ a2 ∧ a2 ≤ 2147483647) (ha3 : (-2147483648) ≤ a3 ∧ a3 ≤ 2147483647) (ha4 : (-2147483648) ≤ a4 ∧ a4 ≤ 2147483647)    : zw (zu_call (zt_T n) 76 [(5, a0), (0, a1), (0, a2), (0, a3), (0, a4)] m0) (fun v m => zi_I m ∧ zfr [(7, 1), (7, 2), (7, 3), (7, 4), (8, 1), (8, 2), (8, 3), (8, 4), (8, 5), (8, 6), (8, 7), (8, 8), (11, 3), (11, 5), (11, 9), (11, 10), (11, 11), (11, 12), (24, 0), (27, 0), (38, 0), (39, 0)] m0 m ∧ ((-2147483648) ≤ v ∧ v ≤ 2147483647)) := by
  have hFm0 : zfr [(7, 1), (7, 2), (7, 3), (7, 4), (8, 1), (8, 2), (8, 3), (8, 4), (8, 5), (8, 6), (8, 7), (8, 8), (11, 3), (11, 5), (11, 9), (11, 10), (11, 11), (11, 12), (24, 0), (27, 0), (38, 0), (39, 0)] m0 m0 := zfr_rf _ _
  refine zw_eq (zr_76_0 n a0 a1 a2 a3 a4 m0) ?_
  refine zw_ite (fun h1 => ?_) (fun h1 => ?_)
  · exact zw_some ⟨hIm0, hFm0, ⟨by omega, by omega⟩⟩
  · refine zw_bd (zw_eq (zr_53_0 n a2 m0) ?_)
    refine zw_ite (fun h2 => ?_) (fun h2 => ?_)
    · refine zw_b (by omega) ?_
      refine zw_some ?_
      refine zw_ite (fun h3 => ?_) (fun h3 => ?_)
      · exact zw_some ⟨hIm0, hFm0, ⟨by omega, by omega⟩⟩
      · exfalso; omega
    · refine zw_ite (fun h4 => ?_) (fun h4 => ?_)
      · refine zw_b (by omega) ?_
        refine zw_some ?_
        refine zw_ite (fun h5 => ?_) (fun h5 => ?_)
        · exact zw_some ⟨hIm0, hFm0, ⟨by omega, by omega⟩⟩
        · exfalso; omega
      · refine zw_b (by omega) ?_
        refine zw_some ?_
        refine zw_ite (fun h6 => ?_) (fun h6 => ?_)
        · exfalso; omega
        · refine zw_bd (zw_eq (zr_211_0 n 89 a3 m0) ?_)
          refine zw_ite (fun h7 => ?_) (fun h7 => ?_)
          · refine zw_b (by omega) ?_
            refine zw_some ?_
            refine zw_ite (fun h8 => ?_) (fun h8 => ?_)
            · exact zw_some ⟨hIm0, hFm0, ⟨by omega, by omega⟩⟩
            · exfalso; omega
          · have r9 : 0 ≤ (m0 89 4) ∧ (m0 89 4) ≤ 4 := zi_rd hIm0 zq_89 zb_11_4
            refine zw_ite (fun h10 => ?_) (fun h10 => ?_)
            · refine zw_b (by omega) ?_
              refine zw_some ?_
              refine zw_ite (fun h11 => ?_) (fun h11 => ?_)
              · exact zw_some ⟨hIm0, hFm0, ⟨by omega, by omega⟩⟩
              · exfalso; omega
            · refine zw_b (by omega) ?_
              refine zw_some ?_
              refine zw_ite (fun h12 => ?_) (fun h12 => ?_)
              · exfalso; omega
              · refine zw_ite (fun h13 => ?_) (fun h13 => ?_)
                · exact zw_some ⟨hIm0, hFm0, ⟨by omega, by omega⟩⟩
                · refine zw_ite (fun h14 => ?_) (fun h14 => ?_)
                  · refine zw_bd (zw_mono (zk_303 n hIm0 zq_153 ⟨by omega, by omega⟩ ⟨by omega, by omega⟩ ⟨by omega, by omega⟩ ⟨by omega, by omega⟩) (fun v16 m15 hqm15 => ?_))
                    obtain ⟨hIm15, hfm15, hvm15⟩ := hqm15
                    have hFm15 := zfr_tr hFm0 hfm15 rfl
                    exact zw_some ⟨hIm15, hFm15, ⟨by omega, by omega⟩⟩
                  · exact zw_some ⟨hIm0, hFm0, ⟨by omega, by omega⟩⟩

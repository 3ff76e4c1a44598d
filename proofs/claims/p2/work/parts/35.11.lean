set_option maxHeartbeats 4000000 in
theorem zk_77 (n : Nat) {a0 a1 a2 a3 : Int} {m0 : zu_m} (hIm0 : zi_I m0) (hc0 : zcls a0 = 2) (ha1 : (-2147483648) ≤ a1 ∧ a1 ≤ 2147483647) (ha2 : (-2147483648) ≤ a2 ∧ a2 ≤ 2147483647) (ha3 : (-2147483648) ≤ a3 ∧ a3 ≤ 2147483647)    : zw (zu_call (zt_T n) 77 [(5, a0), (0, a1), (0, a2), (0, a3)] m0) (fun v m => zi_I m ∧ zfr [(7, 1), (7, 2), (7, 3), (7, 4), (8, 1), (8, 2), (8, 3), (8, 4), (8, 5), (8, 6), (8, 7), (8, 8), (11, 3), (11, 5), (11, 9), (11, 10), (11, 11), (11, 12), (24, 0), (27, 0), (38, 0), (39, 0)] m0 m ∧ ((-2147483648) ≤ v ∧ v ≤ 2147483647)) := by
  have hFm0 : zfr [(7, 1), (7, 2), (7, 3), (7, 4), (8, 1), (8, 2), (8, 3), (8, 4), (8, 5), (8, 6), (8, 7), (8, 8), (11, 3), (11, 5), (11, 9), (11, 10), (11, 11), (11, 12), (24, 0), (27, 0), (38, 0), (39, 0)] m0 m0 := zfr_rf _ _
  refine zw_eq (zr_77_0 n a0 a1 a2 a3 m0) ?_
  refine zw_ite (fun h1 => ?_) (fun h1 => ?_)
  · exact zw_some ⟨hIm0, hFm0, ⟨by omega, by omega⟩⟩
  · refine zw_ite (fun h2 => ?_) (fun h2 => ?_)
    · exact zw_some ⟨hIm0, hFm0, ⟨by omega, by omega⟩⟩
    · refine zw_ite (fun h3 => ?_) (fun h3 => ?_)
      · exact zw_some ⟨hIm0, hFm0, ⟨by omega, by omega⟩⟩
      · refine zw_ite (fun h4 => ?_) (fun h4 => ?_)
        · refine zw_ite (fun h5 => ?_) (fun h5 => ?_)
          · refine zw_ite (fun h6 => ?_) (fun h6 => ?_)
            · refine zw_ite (fun h7 => ?_) (fun h7 => ?_)
              · exact zw_some ⟨hIm0, hFm0, ⟨by omega, by omega⟩⟩
              · exfalso; omega
            · refine zw_ite (fun h8 => ?_) (fun h8 => ?_)
              · exfalso; omega
              · refine zw_bd (zw_mono (zk_304 n hIm0 zq_153 ⟨by omega, by omega⟩ ⟨by omega, by omega⟩ ⟨by omega, by omega⟩) (fun v10 m9 hqm9 => ?_))
                obtain ⟨hIm9, hfm9, hvm9⟩ := hqm9
                have hFm9 := zfr_tr hFm0 hfm9 rfl
                exact zw_some ⟨hIm9, hFm9, ⟨by omega, by omega⟩⟩
          · refine zw_bd (zw_eq (zr_211_0 n 89 a2 m0) ?_)
            refine zw_ite (fun h11 => ?_) (fun h11 => ?_)
            · refine zw_b (by omega) ?_
              refine zw_some ?_
              refine zw_ite (fun h12 => ?_) (fun h12 => ?_)
              · exact zw_some ⟨hIm0, hFm0, ⟨by omega, by omega⟩⟩
              · exfalso; omega
            · have r13 : 0 ≤ (m0 89 4) ∧ (m0 89 4) ≤ 4 := zi_rd hIm0 zq_89 zb_11_4
              refine zw_ite (fun h14 => ?_) (fun h14 => ?_)
              · refine zw_b (by omega) ?_
                refine zw_some ?_
                refine zw_ite (fun h15 => ?_) (fun h15 => ?_)
                · exact zw_some ⟨hIm0, hFm0, ⟨by omega, by omega⟩⟩
                · exfalso; omega
              · refine zw_b (by omega) ?_
                refine zw_some ?_
                refine zw_ite (fun h16 => ?_) (fun h16 => ?_)
                · exfalso; omega
                · refine zw_bd (zw_mono (zk_304 n hIm0 zq_153 ⟨by omega, by omega⟩ ⟨by omega, by omega⟩ ⟨by omega, by omega⟩) (fun v18 m17 hqm17 => ?_))
                  obtain ⟨hIm17, hfm17, hvm17⟩ := hqm17
                  have hFm17 := zfr_tr hFm0 hfm17 rfl
                  exact zw_some ⟨hIm17, hFm17, ⟨by omega, by omega⟩⟩
        · exact zw_some ⟨hIm0, hFm0, ⟨by omega, by omega⟩⟩
set_option maxHeartbeats 4000000 in
theorem zl_137 (n : Nat) {a0 a1 a2 : Int} {m0 : zu_m} (hc0 : zcls a0 = 15)  : ∀ k : Nat, (∀ (x3 x4 : Int) (mh : zu_m), zi_I mh → zfr [(15, 54), (15, 64), (83, 0), (84, 0), (85, 0), (89, 0), (90, 0), (92, 0)] m0 mh → (0 ≤ a1 ∧ a1 ≤ 1) → (0 ≤ a2 ∧ a2 ≤ 3) → (0 ≤ x3 ∧ x3 ≤ 47) → (0 ≤ x4 ∧ x4 ≤ 18) → (18 - x4) * 1 + 0 < (k : Int) → zw (zu_ex (zt_T n) 137 14 [(40, a0), (0, a1), (0, a2), (0, x3), (0, x4), (2, 0), (2, 0)] [] mh) (fun v m => zi_I m ∧ zfr [(15, 54), (15, 64), (83, 0), (84, 0), (85, 0), (89, 0), (90, 0), (92, 0)] m0 m ∧ True)) := by
  intro k
  induction k with
  | zero => exact fun x3 x4 mh hImh hFmh hba1 hba2 hbx3 hbx4 hM => by exfalso; omega
  | succ k ih =>
    intro x3 x4 mh hImh hFmh hba1 hba2 hbx3 hbx4 hM
    refine zw_eq (zr_137_14 n a0 a1 a2 x3 x4 mh) ?_
    have b1 : 0 ≤ a1 ∧ a1 < 2 := by omega
    refine zw_if b1 ?_
    have r2 : 0 ≤ (mh 216 a1) ∧ (mh 216 a1) ≤ 18 := zi_rdr (m := 2) (r0 := 0) (r1 := 1) hImh zq_216 (by omega) (by decide +kernel)
    refine zw_ite (fun h3 => ?_) (fun h3 => ?_)
    · have b4 : 0 ≤ a1 ∧ a1 < 2 := by omega
      refine zw_if b4 ?_
      have r5 : (-9223372036854775808) ≤ (mh 220 a1) ∧ (mh 220 a1) ≤ 9223372036854775807 := zi_rd hImh zq_220 (zb_90 _)
      have b6 := zu_shl_rg 1 x3
      have b7 := zu_i64_rg 4 (mh 220 a1) (zu_shl 1 x3)
      have b8 : 0 ≤ a1 ∧ a1 < 2 := by omega
      refine zw_if b8 ?_
      generalize hmm9 : zu_up mh 220 a1 (zu_i64 4 (mh 220 a1) (zu_shl 1 x3)) = m9
      have hIm9 := zi_up hmm9 hImh zq_220 (zb_90 _) (by omega) (by omega)
      have hFm9 := zfr_up hmm9 hFmh zq_220 rfl
      refine zw_ite (fun h10 => ?_) (fun h10 => ?_)
      · have b11 : 0 ≤ a2 ∧ a2 < 4 := by omega
        refine zw_if b11 ?_
        have r12 : (-2147483648) ≤ (m9 219 a2) ∧ (m9 219 a2) ≤ 2147483647 := zi_rd hIm9 zq_219 (zb_89 _)
        have w13 := zu_w32_rg ((m9 219 a2) + 1)
        have b14 : 0 ≤ a2 ∧ a2 < 4 := by omega
        refine zw_if b14 ?_
        generalize hmm15 : zu_up m9 219 a2 (zu_w32 ((m9 219 a2) + 1)) = m15
        have hIm15 := zi_up hmm15 hIm9 zq_219 (zb_89 _) (by omega) (by omega)
        have hFm15 := zfr_up hmm15 hFm9 zq_219 rfl
        have b16 : 0 ≤ x3 ∧ x3 < 48 := by omega
        refine zw_if b16 ?_
        have r17 : (-2147483648) ≤ (m15 222 x3) ∧ (m15 222 x3) ≤ 2147483647 := zi_rd hIm15 zq_222 (zb_92 _)
        refine zw_bd (zw_mono (zk_138 n hIm15 hc0 ⟨by omega, by omega⟩ ⟨by omega, by omega⟩ ⟨by omega, by omega⟩) (fun v19 m18 hqm18 => ?_))
        obtain ⟨hIm18, hfm18, hvm18⟩ := hqm18
        have hFm18 := zfr_tr hFm15 hfm18 rfl
        have b20 : 0 ≤ x3 ∧ x3 < 48 := by omega
        refine zw_if b20 ?_
        generalize hmm21 : zu_up m18 222 x3 v19 = m21
        have hIm21 := zi_up hmm21 hIm18 zq_222 (zb_92 _) (by omega) (by omega)
        have hFm21 := zfr_up hmm21 hFm18 zq_222 rfl
        exact zw_some ⟨hIm21, hFm21, trivial⟩
      · exact zw_some ⟨hIm9, hFm9, trivial⟩
    · have w22 := zu_w32_id (z := 18 * a1) (by omega) (by omega)
      have w23 := zu_w32_id (z := (zu_w32 (18 * a1)) + x4) (by omega) (by omega)
      have b24 : 0 ≤ (zu_w32 ((zu_w32 (18 * a1)) + x4)) ∧ (zu_w32 ((zu_w32 (18 * a1)) + x4)) < 36 := by omega
      refine zw_if b24 ?_
      have r25 : (-3) ≤ (mh 215 (zu_w32 ((zu_w32 (18 * a1)) + x4))) ∧ (mh 215 (zu_w32 ((zu_w32 (18 * a1)) + x4))) ≤ 3 := zi_rd hImh zq_215 (zb_85 _)
      refine zw_ite (fun h26 => ?_) (fun h26 => ?_)
      · have w27 := zu_w32_id (z := x4 + 1) (by omega) (by omega)
        have hM : (18 - (zu_w32 (x4 + 1))) * 1 + 0 < (k : Int) := by omega
        exact ih x3 (zu_w32 (x4 + 1)) mh hImh hFmh ⟨by omega, by omega⟩ ⟨by omega, by omega⟩ ⟨by omega, by omega⟩ ⟨by omega, by omega⟩ hM
      · have b28 : 0 ≤ x4 ∧ x4 < 36 := by omega
        refine zw_if b28 ?_
        have r29 : 0 ≤ (mh 197 x4) ∧ (mh 197 x4) ≤ 47 := zi_rd hImh zq_197 (zb_67 _)
        refine zw_ite (fun h30 => ?_) (fun h30 => ?_)
        · have w31 := zu_w32_id (z := x4 + 1) (by omega) (by omega)
          have hM : (18 - (zu_w32 (x4 + 1))) * 1 + 0 < (k : Int) := by omega
          exact ih x3 (zu_w32 (x4 + 1)) mh hImh hFmh ⟨by omega, by omega⟩ ⟨by omega, by omega⟩ ⟨by omega, by omega⟩ ⟨by omega, by omega⟩ hM
        · have r32 : (-2147483648) ≤ (mh a0 64) ∧ (mh a0 64) ≤ 2147483647 := zi_rd hImh hc0 zb_15_64
          refine zw_ite (fun h33 => ?_) (fun h33 => ?_)
          · refine zw_bd (zw_mono (zk_131 n hImh hc0 ⟨by omega, by omega⟩ ⟨by omega, by omega⟩ ⟨by omega, by omega⟩) (fun v35 m34 hqm34 => ?_))
            obtain ⟨hIm34, hfm34, hvm34⟩ := hqm34
            have hFm34 := zfr_tr hFmh hfm34 rfl
            have r36 : 0 ≤ (m34 a0 65) ∧ (m34 a0 65) ≤ 1 := zi_rd hIm34 hc0 zb_15_65
            refine zw_ite (fun h37 => ?_) (fun h37 => ?_)
            · refine zw_bd (zw_mono (zk_136 n hIm34 hc0 ⟨by omega, by omega⟩) (fun v39 m38 hqm38 => ?_))
              obtain ⟨hIm38, hfm38, hvm38⟩ := hqm38
              have hFm38 := zfr_tr hFm34 hfm38 rfl
              refine zw_ite (fun h40 => ?_) (fun h40 => ?_)
              · refine zw_ite (fun h41 => ?_) (fun h41 => ?_)
                · have w42 := zu_w32_id (z := x4 + 1) (by omega) (by omega)
                  have hM : (18 - (zu_w32 (x4 + 1))) * 1 + 0 < (k : Int) := by omega
                  exact zw_le (zu_forget (zu_lr_same (zu_lr_same (zu_lr_same (zu_lr_same (zu_lr_same (zu_lr_drop (zu_lr_drop zu_lr_nil)))))))) (ih x3 (zu_w32 (x4 + 1)) m38 hIm38 hFm38 ⟨by omega, by omega⟩ ⟨by omega, by omega⟩ ⟨by omega, by omega⟩ ⟨by omega, by omega⟩ hM)
                · exfalso; omega
              · refine zw_ite (fun h43 => ?_) (fun h43 => ?_)
                · exfalso; omega
                · have b44 : 0 ≤ (zu_w32 ((zu_w32 (18 * a1)) + x4)) ∧ (zu_w32 ((zu_w32 (18 * a1)) + x4)) < 36 := by omega
                  refine zw_if b44 ?_
                  generalize hmm45 : zu_up m38 215 (zu_w32 ((zu_w32 (18 * a1)) + x4)) a2 = m45
                  have hIm45 := zi_up hmm45 hIm38 zq_215 (zb_85 _) (by omega) (by omega)
                  have hFm45 := zfr_up hmm45 hFm38 zq_215 rfl
                  have w46 := zu_w32_id (z := x4 + 1) (by omega) (by omega)
                  have hM : (18 - (zu_w32 (x4 + 1))) * 1 + 0 < (k : Int) := by omega
                  exact zw_le (zu_forget (zu_lr_same (zu_lr_same (zu_lr_same (zu_lr_same (zu_lr_same (zu_lr_drop (zu_lr_drop zu_lr_nil)))))))) (ih x3 (zu_w32 (x4 + 1)) m45 hIm45 hFm45 ⟨by omega, by omega⟩ ⟨by omega, by omega⟩ ⟨by omega, by omega⟩ ⟨by omega, by omega⟩ hM)
            · refine zw_ite (fun h47 => ?_) (fun h47 => ?_)
              · refine zw_ite (fun h48 => ?_) (fun h48 => ?_)
                · have w49 := zu_w32_id (z := x4 + 1) (by omega) (by omega)
                  have hM : (18 - (zu_w32 (x4 + 1))) * 1 + 0 < (k : Int) := by omega
                  exact zw_le (zu_forget (zu_lr_same (zu_lr_same (zu_lr_same (zu_lr_same (zu_lr_same (zu_lr_drop (zu_lr_drop zu_lr_nil)))))))) (ih x3 (zu_w32 (x4 + 1)) m34 hIm34 hFm34 ⟨by omega, by omega⟩ ⟨by omega, by omega⟩ ⟨by omega, by omega⟩ ⟨by omega, by omega⟩ hM)
                · exfalso; omega
              · refine zw_ite (fun h50 => ?_) (fun h50 => ?_)
                · exfalso; omega
                · have b51 : 0 ≤ (zu_w32 ((zu_w32 (18 * a1)) + x4)) ∧ (zu_w32 ((zu_w32 (18 * a1)) + x4)) < 36 := by omega
                  refine zw_if b51 ?_
                  generalize hmm52 : zu_up m34 215 (zu_w32 ((zu_w32 (18 * a1)) + x4)) a2 = m52
                  have hIm52 := zi_up hmm52 hIm34 zq_215 (zb_85 _) (by omega) (by omega)
                  have hFm52 := zfr_up hmm52 hFm34 zq_215 rfl
                  have w53 := zu_w32_id (z := x4 + 1) (by omega) (by omega)
                  have hM : (18 - (zu_w32 (x4 + 1))) * 1 + 0 < (k : Int) := by omega
                  exact zw_le (zu_forget (zu_lr_same (zu_lr_same (zu_lr_same (zu_lr_same (zu_lr_same (zu_lr_drop (zu_lr_drop zu_lr_nil)))))))) (ih x3 (zu_w32 (x4 + 1)) m52 hIm52 hFm52 ⟨by omega, by omega⟩ ⟨by omega, by omega⟩ ⟨by omega, by omega⟩ ⟨by omega, by omega⟩ hM)
          · have b54 : 0 ≤ x4 ∧ x4 < 36 := by omega
            refine zw_if b54 ?_
            have r55 : 0 ≤ (mh 198 x4) ∧ (mh 198 x4) ≤ 3 := zi_rd hImh zq_198 (zb_68 _)
            refine zw_nif (by omega) ?_
            have d56 : Int.tmod a2 4 = a2 % 4 := Int.tmod_eq_emod_of_nonneg (by omega)
            refine zw_ite (fun h57 => ?_) (fun h57 => ?_)
            · refine zw_bd (zw_mono (zk_131 n hImh hc0 ⟨by omega, by omega⟩ ⟨by omega, by omega⟩ ⟨by omega, by omega⟩) (fun v59 m58 hqm58 => ?_))
              obtain ⟨hIm58, hfm58, hvm58⟩ := hqm58
              have hFm58 := zfr_tr hFmh hfm58 rfl
              have r60 : 0 ≤ (m58 a0 65) ∧ (m58 a0 65) ≤ 1 := zi_rd hIm58 hc0 zb_15_65
              refine zw_ite (fun h61 => ?_) (fun h61 => ?_)
              · refine zw_bd (zw_mono (zk_136 n hIm58 hc0 ⟨by omega, by omega⟩) (fun v63 m62 hqm62 => ?_))
                obtain ⟨hIm62, hfm62, hvm62⟩ := hqm62
                have hFm62 := zfr_tr hFm58 hfm62 rfl
                refine zw_ite (fun h64 => ?_) (fun h64 => ?_)
                · refine zw_ite (fun h65 => ?_) (fun h65 => ?_)
                  · have w66 := zu_w32_id (z := x4 + 1) (by omega) (by omega)
                    have hM : (18 - (zu_w32 (x4 + 1))) * 1 + 0 < (k : Int) := by omega
                    exact zw_le (zu_forget (zu_lr_same (zu_lr_same (zu_lr_same (zu_lr_same (zu_lr_same (zu_lr_drop (zu_lr_drop zu_lr_nil)))))))) (ih x3 (zu_w32 (x4 + 1)) m62 hIm62 hFm62 ⟨by omega, by omega⟩ ⟨by omega, by omega⟩ ⟨by omega, by omega⟩ ⟨by omega, by omega⟩ hM)
                  · exfalso; omega
                · refine zw_ite (fun h67 => ?_) (fun h67 => ?_)
                  · exfalso; omega
                  · have b68 : 0 ≤ (zu_w32 ((zu_w32 (18 * a1)) + x4)) ∧ (zu_w32 ((zu_w32 (18 * a1)) + x4)) < 36 := by omega
                    refine zw_if b68 ?_
                    generalize hmm69 : zu_up m62 215 (zu_w32 ((zu_w32 (18 * a1)) + x4)) a2 = m69
                    have hIm69 := zi_up hmm69 hIm62 zq_215 (zb_85 _) (by omega) (by omega)
                    have hFm69 := zfr_up hmm69 hFm62 zq_215 rfl
                    have w70 := zu_w32_id (z := x4 + 1) (by omega) (by omega)
                    have hM : (18 - (zu_w32 (x4 + 1))) * 1 + 0 < (k : Int) := by omega
                    exact zw_le (zu_forget (zu_lr_same (zu_lr_same (zu_lr_same (zu_lr_same (zu_lr_same (zu_lr_drop (zu_lr_drop zu_lr_nil)))))))) (ih x3 (zu_w32 (x4 + 1)) m69 hIm69 hFm69 ⟨by omega, by omega⟩ ⟨by omega, by omega⟩ ⟨by omega, by omega⟩ ⟨by omega, by omega⟩ hM)
              · refine zw_ite (fun h71 => ?_) (fun h71 => ?_)
                · refine zw_ite (fun h72 => ?_) (fun h72 => ?_)
                  · have w73 := zu_w32_id (z := x4 + 1) (by omega) (by omega)
                    have hM : (18 - (zu_w32 (x4 + 1))) * 1 + 0 < (k : Int) := by omega
                    exact zw_le (zu_forget (zu_lr_same (zu_lr_same (zu_lr_same (zu_lr_same (zu_lr_same (zu_lr_drop (zu_lr_drop zu_lr_nil)))))))) (ih x3 (zu_w32 (x4 + 1)) m58 hIm58 hFm58 ⟨by omega, by omega⟩ ⟨by omega, by omega⟩ ⟨by omega, by omega⟩ ⟨by omega, by omega⟩ hM)
                  · exfalso; omega
                · refine zw_ite (fun h74 => ?_) (fun h74 => ?_)
                  · exfalso; omega
                  · have b75 : 0 ≤ (zu_w32 ((zu_w32 (18 * a1)) + x4)) ∧ (zu_w32 ((zu_w32 (18 * a1)) + x4)) < 36 := by omega
                    refine zw_if b75 ?_
                    generalize hmm76 : zu_up m58 215 (zu_w32 ((zu_w32 (18 * a1)) + x4)) a2 = m76
                    have hIm76 := zi_up hmm76 hIm58 zq_215 (zb_85 _) (by omega) (by omega)
                    have hFm76 := zfr_up hmm76 hFm58 zq_215 rfl
                    have w77 := zu_w32_id (z := x4 + 1) (by omega) (by omega)
                    have hM : (18 - (zu_w32 (x4 + 1))) * 1 + 0 < (k : Int) := by omega
                    exact zw_le (zu_forget (zu_lr_same (zu_lr_same (zu_lr_same (zu_lr_same (zu_lr_same (zu_lr_drop (zu_lr_drop zu_lr_nil)))))))) (ih x3 (zu_w32 (x4 + 1)) m76 hIm76 hFm76 ⟨by omega, by omega⟩ ⟨by omega, by omega⟩ ⟨by omega, by omega⟩ ⟨by omega, by omega⟩ hM)
            · have w78 := zu_w32_id (z := x4 + 1) (by omega) (by omega)
              have hM : (18 - (zu_w32 (x4 + 1))) * 1 + 0 < (k : Int) := by omega
              exact ih x3 (zu_w32 (x4 + 1)) mh hImh hFmh ⟨by omega, by omega⟩ ⟨by omega, by omega⟩ ⟨by omega, by omega⟩ ⟨by omega, by omega⟩ hM
set_option maxHeartbeats 4000000 in
theorem zk_137 (n : Nat) {a0 a1 a2 : Int} {m0 : zu_m} (hIm0 : zi_I m0) (hc0 : zcls a0 = 15) (ha1 : 0 ≤ a1 ∧ a1 ≤ 1) (ha2 : 0 ≤ a2 ∧ a2 ≤ 3)    : zw (zu_call (zt_T n) 137 [(40, a0), (0, a1), (0, a2)] m0) (fun v m => zi_I m ∧ zfr [(15, 54), (15, 64), (83, 0), (84, 0), (85, 0), (89, 0), (90, 0), (92, 0)] m0 m ∧ True) := by
  have hFm0 : zfr [(15, 54), (15, 64), (83, 0), (84, 0), (85, 0), (89, 0), (90, 0), (92, 0)] m0 m0 := zfr_rf _ _
  refine zw_eq (zr_137_0 n a0 a1 a2 m0) ?_
  have w79 := zu_w32_id (z := 4 * a1) (by omega) (by omega)
  have w80 := zu_w32_id (z := (zu_w32 (4 * a1)) + a2) (by omega) (by omega)
  have b81 : 0 ≤ (zu_w32 ((zu_w32 (4 * a1)) + a2)) ∧ (zu_w32 ((zu_w32 (4 * a1)) + a2)) < 8 := by omega
  refine zw_if b81 ?_
  have r82 : 0 ≤ (m0 217 (zu_w32 ((zu_w32 (4 * a1)) + a2))) ∧ (m0 217 (zu_w32 ((zu_w32 (4 * a1)) + a2))) ≤ 47 := zi_rd hIm0 zq_217 (zb_87 _)
  have hM : (18 - 0) * 1 + 0 < ((19 : Nat) : Int) := by omega
  exact (zl_137 n (m0 := m0) hc0 19) (m0 217 (zu_w32 ((zu_w32 (4 * a1)) + a2))) 0 m0 hIm0 hFm0 ⟨by omega, by omega⟩ ⟨by omega, by omega⟩ ⟨by omega, by omega⟩ ⟨by omega, by omega⟩ hM
set_option maxHeartbeats 4000000 in
theorem zk_146 (n : Nat) {a0 a1 a2 : Int} {m0 : zu_m} (hIm0 : zi_I m0) (hc0 : zcls a0 = 15) (ha1 : (-2147483648) ≤ a1 ∧ a1 ≤ 2147483647) (ha2 : (-2147483648) ≤ a2 ∧ a2 ≤ 2147483647)    : zw (zu_call (zt_T n) 146 [(40, a0), (0, a1), (0, a2)] m0) (fun v m => zi_I m ∧ zfr [(15, 3), (15, 54), (83, 0), (84, 0)] m0 m ∧ ((-2147483648) ≤ v ∧ v ≤ 2147483647) ∧ (0 ≤ m a0 2 ∧ m a0 2 ≤ 0)) := by
  have hFm0 : zfr [(15, 3), (15, 54), (83, 0), (84, 0)] m0 m0 := zfr_rf _ _
  refine zw_eq (zr_146_0 n a0 a1 a2 m0) ?_
  generalize hmm1 : zu_up m0 a0 2 0 = m1
  have hIm1 := zi_up hmm1 hIm0 hc0 zb_15_2 (by omega) (by omega)
  have hFm1 := zfr_up hmm1 hFm0 hc0 rfl
  refine zw_bd (zw_eq (zr_125_0 n a0 a1 m1) ?_)
  refine zw_ite (fun h2 => ?_) (fun h2 => ?_)
  · refine zw_b (by omega) ?_
    refine zw_some ?_
    refine zw_ite (fun h3 => ?_) (fun h3 => ?_)
    · have r4 : (-2147483648) ≤ (m1 a0 2) ∧ (m1 a0 2) ≤ 2147483647 := zi_rd hIm1 hc0 zb_15_2
      have e5 : (m1 a0 2) = 0 := (zs_eq hmm1)
      exact zw_some ⟨hIm1, hFm1, ⟨by omega, by omega⟩, ⟨by omega, by omega⟩⟩
    · exfalso; omega
  · have r6 : 0 ≤ (m1 a0 15) ∧ (m1 a0 15) ≤ 4 := zi_rd hIm1 hc0 zb_15_15
    refine zw_ite (fun h7 => ?_) (fun h7 => ?_)
    · refine zw_b (by omega) ?_
      refine zw_some ?_
      refine zw_ite (fun h8 => ?_) (fun h8 => ?_)
      · have r9 : (-2147483648) ≤ (m1 a0 2) ∧ (m1 a0 2) ≤ 2147483647 := zi_rd hIm1 hc0 zb_15_2
        have e10 : (m1 a0 2) = 0 := (zs_eq hmm1)
        exact zw_some ⟨hIm1, hFm1, ⟨by omega, by omega⟩, ⟨by omega, by omega⟩⟩
      · exfalso; omega
    · refine zw_b (by omega) ?_
      refine zw_some ?_
      refine zw_ite (fun h11 => ?_) (fun h11 => ?_)
      · exfalso; omega
      · refine zw_bd (zw_eq (zr_124_0 n a0 a2 m1) ?_)
        refine zw_ite (fun h12 => ?_) (fun h12 => ?_)
        · refine zw_b (by omega) ?_
          refine zw_some ?_
          refine zw_ite (fun h13 => ?_) (fun h13 => ?_)
          · have r14 : (-2147483648) ≤ (m1 a0 2) ∧ (m1 a0 2) ≤ 2147483647 := zi_rd hIm1 hc0 zb_15_2
            have e15 : (m1 a0 2) = 0 := (zs_eq hmm1)
            exact zw_some ⟨hIm1, hFm1, ⟨by omega, by omega⟩, ⟨by omega, by omega⟩⟩
          · exfalso; omega
        · have b16 : 0 ≤ (0 : Int) ∧ (0 : Int) < 2 := by omega
          refine zw_if b16 ?_
          have r17 : 0 ≤ (m1 216 0) ∧ (m1 216 0) ≤ 16 := zi_rdr (m := 2) (r0 := 0) (r1 := 0) hIm1 zq_216 (by omega) (by decide +kernel)
          refine zw_ite (fun h18 => ?_) (fun h18 => ?_)
          · refine zw_b (by omega) ?_
            refine zw_some ?_
            refine zw_ite (fun h19 => ?_) (fun h19 => ?_)
            · have r20 : (-2147483648) ≤ (m1 a0 2) ∧ (m1 a0 2) ≤ 2147483647 := zi_rd hIm1 hc0 zb_15_2
              have e21 : (m1 a0 2) = 0 := (zs_eq hmm1)
              exact zw_some ⟨hIm1, hFm1, ⟨by omega, by omega⟩, ⟨by omega, by omega⟩⟩
            · exfalso; omega
          · refine zw_b (by omega) ?_
            refine zw_some ?_
            refine zw_ite (fun h22 => ?_) (fun h22 => ?_)
            · exfalso; omega
            · refine zw_bd (zw_mono (zk_131 n hIm1 hc0 ⟨by omega, by omega⟩ ⟨by omega, by omega⟩ ⟨by omega, by omega⟩) (fun v24 m23 hqm23 => ?_))
              obtain ⟨hIm23, hfm23, hvm23⟩ := hqm23
              have hFm23 := zfr_tr hFm1 hfm23 rfl
              have r25 : (-2147483648) ≤ (m23 a0 2) ∧ (m23 a0 2) ≤ 2147483647 := zi_rd hIm23 hc0 zb_15_2
              have e26 : (m23 a0 2) = 0 := (Eq.trans (zfr_ap hfm23 hc0 rfl) (zs_eq hmm1))
              exact zw_some ⟨hIm23, hFm23, ⟨by omega, by omega⟩, ⟨by omega, by omega⟩⟩
set_option maxHeartbeats 4000000 in
theorem zl_158 (n : Nat) {a0 a1 a2 : Int} {m0 : zu_m} (hc0 : zcls a0 = 15)  : ∀ k : Nat, (∀ (x3 x4 : Int) (mh : zu_m), zi_I mh → zfr [(15, 3), (15, 54), (15, 65), (15, 66), (15, 67), (15, 68), (15, 69), (15, 70), (83, 0), (84, 0), (93, 0)] m0 mh → (0 ≤ a1 ∧ a1 ≤ 3) → (1 ≤ a2 ∧ a2 ≤ 99999) → (0 ≤ x3 ∧ x3 ≤ 47) → (0 ≤ x4 ∧ x4 ≤ 40) → (1 ≤ mh a0 15 ∧ mh a0 15 ≤ 4) → (0 ≤ mh a0 2 ∧ mh a0 2 ≤ 0) → (40 - x4) * 1 + 0 < (k : Int) → zw (zu_ex (zt_T n) 158 39 [(40, a0), (0, a1), (0, a2), (0, x3), (0, x4), (2, 0)] [] mh) (fun v m => zi_I m ∧ zfr [(15, 3), (15, 54), (15, 65), (15, 66), (15, 67), (15, 68), (15, 69), (15, 70), (83, 0), (84, 0), (93, 0)] m0 m ∧ ((-1) ≤ v ∧ v ≤ 40) ∧ (0 ≤ m a0 2 ∧ m a0 2 ≤ 0))) := by
  intro k
  induction k with
  | zero => exact fun x3 x4 mh hImh hFmh hba1 hba2 hbx3 hbx4 hg4 hg5 hM => by exfalso; omega
  | succ k ih =>
    intro x3 x4 mh hImh hFmh hba1 hba2 hbx3 hbx4 hg4 hg5 hM
    refine zw_eq (zr_158_39 n a0 a1 a2 x3 x4 mh) ?_
    refine zw_ite (fun h1 => ?_) (fun h1 => ?_)
    · exact zw_some ⟨hImh, hFmh, ⟨by omega, by omega⟩, ⟨by omega, by omega⟩⟩
    · refine zw_bd (zw_mono (zk_155 n hImh hc0 ⟨by omega, by omega⟩ ⟨by omega, by omega⟩) (fun v3 m2 hqm2 => ?_))
      obtain ⟨hIm2, hfm2, hvm2⟩ := hqm2
      have hFm2 := zfr_tr hFmh hfm2 rfl
      refine zw_ite (fun h4 => ?_) (fun h4 => ?_)
      · have r5 : (-2147483648) ≤ (m2 a0 2) ∧ (m2 a0 2) ≤ 2147483647 := zi_rd hIm2 hc0 zb_15_2
        have e6 : (m2 a0 2) = (mh a0 2) := (zfr_ap hfm2 hc0 rfl)
        exact zw_some ⟨hIm2, hFm2, ⟨by omega, by omega⟩, ⟨by omega, by omega⟩⟩
      · have b7 : 0 ≤ v3 ∧ v3 < 48 := by omega
        refine zw_if b7 ?_
        have r8 : (-2147483648) ≤ (m2 223 v3) ∧ (m2 223 v3) ≤ 2147483647 := zi_rd hIm2 zq_223 (zb_93 _)
        refine zw_bd (zw_mono (zk_135 n hIm2 hc0 ⟨by omega, by omega⟩ ⟨by omega, by omega⟩) (fun v10 m9 hqm9 => ?_))
        obtain ⟨hIm9, hfm9, hvm9⟩ := hqm9
        have hFm9 := zfr_tr hFm2 hfm9 rfl
        have w11 := zu_w32_id (z := v10 + 1) (by omega) (by omega)
        have p12 := zmul_bd (x := a2) (y := (zu_w32 (v10 + 1))) (a := 1) (b := 1) (A := 99999) (B := 55) (by omega) (by omega) (by omega) (by omega) (by omega) (by omega)
        have w13 := zu_w64_id (z := a2 * (zu_w32 (v10 + 1))) (by omega) (by omega)
        have c14 := zu_lcmp_sp (m2 223 v3) (zu_w64 (a2 * (zu_w32 (v10 + 1))))
        refine zw_ite (fun h15 => ?_) (fun h15 => ?_)
        · have b16 : 0 ≤ v3 ∧ v3 < 48 := by omega
          refine zw_if b16 ?_
          have r17 : (-2147483648) ≤ (m9 223 v3) ∧ (m9 223 v3) ≤ 2147483647 := zi_rd hIm9 zq_223 (zb_93 _)
          have e18 : (m9 223 v3) = (m2 223 v3) := (zfr_ap hfm9 zq_223 rfl)
          refine zw_bd (zw_mono (zk_138 n hIm9 hc0 ⟨by omega, by omega⟩ ⟨by omega, by omega⟩ ⟨by omega, by omega⟩) (fun v20 m19 hqm19 => ?_))
          obtain ⟨hIm19, hfm19, hvm19⟩ := hqm19
          have hFm19 := zfr_tr hFm9 hfm19 rfl
          have b21 : 0 ≤ v3 ∧ v3 < 48 := by omega
          refine zw_if b21 ?_
          generalize hmm22 : zu_up m19 223 v3 v20 = m22
          have hIm22 := zi_up hmm22 hIm19 zq_223 (zb_93 _) (by omega) (by omega)
          have hFm22 := zfr_up hmm22 hFm19 zq_223 rfl
          have w23 := zu_w32_id (z := x4 + 1) (by omega) (by omega)
          have r24 : (-2147483648) ≤ (m22 a0 2) ∧ (m22 a0 2) ≤ 2147483647 := zi_rd hIm22 hc0 zb_15_2
          have e25 : (m22 a0 2) = (mh a0 2) := (Eq.trans (zs_ne hmm22 (Or.inl (zc_ne hc0 zq_223 (by decide)))) (Eq.trans (zfr_ap hfm19 hc0 rfl) (Eq.trans (zfr_ap hfm9 hc0 rfl) (zfr_ap hfm2 hc0 rfl))))
          have r26 : 0 ≤ (m22 a0 15) ∧ (m22 a0 15) ≤ 4 := zi_rd hIm22 hc0 zb_15_15
          have e27 : (m22 a0 15) = (mh a0 15) := (Eq.trans (zs_ne hmm22 (Or.inl (zc_ne hc0 zq_223 (by decide)))) (Eq.trans (zfr_ap hfm19 hc0 rfl) (Eq.trans (zfr_ap hfm9 hc0 rfl) (zfr_ap hfm2 hc0 rfl))))
          have hM : (40 - (zu_w32 (x4 + 1))) * 1 + 0 < (k : Int) := by omega
          exact zw_le (zu_forget (zu_lr_same (zu_lr_same (zu_lr_same (zu_lr_same (zu_lr_same (zu_lr_drop zu_lr_nil))))))) (ih v3 (zu_w32 (x4 + 1)) m22 hIm22 hFm22 ⟨by omega, by omega⟩ ⟨by omega, by omega⟩ ⟨by omega, by omega⟩ ⟨by omega, by omega⟩ ⟨by omega, by omega⟩ ⟨by omega, by omega⟩ hM)
        · have r28 : (-2147483648) ≤ (m9 a0 2) ∧ (m9 a0 2) ≤ 2147483647 := zi_rd hIm9 hc0 zb_15_2
          have e29 : (m9 a0 2) = (mh a0 2) := (Eq.trans (zfr_ap hfm9 hc0 rfl) (zfr_ap hfm2 hc0 rfl))
          exact zw_some ⟨hIm9, hFm9, ⟨by omega, by omega⟩, ⟨by omega, by omega⟩⟩
set_option maxHeartbeats 4000000 in
theorem zk_158 (n : Nat) {a0 a1 a2 : Int} {m0 : zu_m} (hIm0 : zi_I m0) (hc0 : zcls a0 = 15) (ha1 : (-2147483648) ≤ a1 ∧ a1 ≤ 2147483647) (ha2 : (-2147483648) ≤ a2 ∧ a2 ≤ 2147483647)    : zw (zu_call (zt_T n) 158 [(40, a0), (0, a1), (0, a2)] m0) (fun v m => zi_I m ∧ zfr [(15, 3), (15, 54), (15, 65), (15, 66), (15, 67), (15, 68), (15, 69), (15, 70), (83, 0), (84, 0), (93, 0)] m0 m ∧ ((-1) ≤ v ∧ v ≤ 40) ∧ (0 ≤ m a0 2 ∧ m a0 2 ≤ 0)) := by
  have hFm0 : zfr [(15, 3), (15, 54), (15, 65), (15, 66), (15, 67), (15, 68), (15, 69), (15, 70), (83, 0), (84, 0), (93, 0)] m0 m0 := zfr_rf _ _
  refine zw_eq (zr_158_0 n a0 a1 a2 m0) ?_
  generalize hmm30 : zu_up m0 a0 2 0 = m30
  have hIm30 := zi_up hmm30 hIm0 hc0 zb_15_2 (by omega) (by omega)
  have hFm30 := zfr_up hmm30 hFm0 hc0 rfl
  refine zw_bd (zw_eq (zr_125_0 n a0 a1 m30) ?_)
  refine zw_ite (fun h31 => ?_) (fun h31 => ?_)
  · refine zw_b (by omega) ?_
    refine zw_some ?_
    refine zw_ite (fun h32 => ?_) (fun h32 => ?_)
    · have r33 : (-2147483648) ≤ (m30 a0 2) ∧ (m30 a0 2) ≤ 2147483647 := zi_rd hIm30 hc0 zb_15_2
      have e34 : (m30 a0 2) = 0 := (zs_eq hmm30)
      exact zw_some ⟨hIm30, hFm30, ⟨by omega, by omega⟩, ⟨by omega, by omega⟩⟩
    · exfalso; omega
  · have r35 : 0 ≤ (m30 a0 15) ∧ (m30 a0 15) ≤ 4 := zi_rd hIm30 hc0 zb_15_15
    refine zw_ite (fun h36 => ?_) (fun h36 => ?_)
    · refine zw_b (by omega) ?_
      refine zw_some ?_
      refine zw_ite (fun h37 => ?_) (fun h37 => ?_)
      · have r38 : (-2147483648) ≤ (m30 a0 2) ∧ (m30 a0 2) ≤ 2147483647 := zi_rd hIm30 hc0 zb_15_2
        have e39 : (m30 a0 2) = 0 := (zs_eq hmm30)
        exact zw_some ⟨hIm30, hFm30, ⟨by omega, by omega⟩, ⟨by omega, by omega⟩⟩
      · exfalso; omega
    · refine zw_b (by omega) ?_
      refine zw_some ?_
      refine zw_ite (fun h40 => ?_) (fun h40 => ?_)
      · exfalso; omega
      · refine zw_bd (zw_eq (zr_83_0 n a2 1 99999 m30) ?_)
        refine zw_ite (fun h41 => ?_) (fun h41 => ?_)
        · refine zw_b (by omega) ?_
          refine zw_some ?_
          refine zw_ite (fun h42 => ?_) (fun h42 => ?_)
          · exfalso; omega
          · have r43 : (-2147483648) ≤ (m30 a0 2) ∧ (m30 a0 2) ≤ 2147483647 := zi_rd hIm30 hc0 zb_15_2
            have e44 : (m30 a0 2) = 0 := (zs_eq hmm30)
            exact zw_some ⟨hIm30, hFm30, ⟨by omega, by omega⟩, ⟨by omega, by omega⟩⟩
        · refine zw_ite (fun h45 => ?_) (fun h45 => ?_)
          · refine zw_b (by omega) ?_
            refine zw_some ?_
            refine zw_ite (fun h46 => ?_) (fun h46 => ?_)
            · exfalso; omega
            · have r47 : (-2147483648) ≤ (m30 a0 2) ∧ (m30 a0 2) ≤ 2147483647 := zi_rd hIm30 hc0 zb_15_2
              have e48 : (m30 a0 2) = 0 := (zs_eq hmm30)
              exact zw_some ⟨hIm30, hFm30, ⟨by omega, by omega⟩, ⟨by omega, by omega⟩⟩
          · refine zw_b (by omega) ?_
            refine zw_some ?_
            refine zw_ite (fun h49 => ?_) (fun h49 => ?_)
            · refine zw_bd (zw_mono (zk_156 n hIm30 hc0) (fun v51 m50 hqm50 => ?_))
              obtain ⟨hIm50, hfm50, hvm50⟩ := hqm50
              have hFm50 := zfr_tr hFm30 hfm50 rfl
              have b52 : 0 ≤ a1 ∧ a1 < 8 := by omega
              refine zw_if b52 ?_
              have r53 : 0 ≤ (m50 217 a1) ∧ (m50 217 a1) ≤ 47 := zi_rd hIm50 zq_217 (zb_87 _)
              have r54 : (-2147483648) ≤ (m50 a0 2) ∧ (m50 a0 2) ≤ 2147483647 := zi_rd hIm50 hc0 zb_15_2
              have e55 : (m50 a0 2) = 0 := (Eq.trans (zfr_ap hfm50 hc0 rfl) (zs_eq hmm30))
              have r56 : 0 ≤ (m50 a0 15) ∧ (m50 a0 15) ≤ 4 := zi_rd hIm50 hc0 zb_15_15
              have e57 : (m50 a0 15) = (m30 a0 15) := (zfr_ap hfm50 hc0 rfl)
              have hM : (40 - 0) * 1 + 0 < ((41 : Nat) : Int) := by omega
              exact (zl_158 n (m0 := m0) hc0 41) (m50 217 a1) 0 m50 hIm50 hFm50 ⟨by omega, by omega⟩ ⟨by omega, by omega⟩ ⟨by omega, by omega⟩ ⟨by omega, by omega⟩ ⟨by omega, by omega⟩ ⟨by omega, by omega⟩ hM
            · exfalso; omega
set_option maxHeartbeats 4000000 in
theorem zl_176 (n : Nat) {a0 a1 : Int} {m0 : zu_m} (hc0 : zcls a0 = 15)  : ∀ k : Nat, (∀ (x2 : Int) (mh : zu_m), zi_I mh → zfr [(15, 3), (15, 54), (83, 0), (84, 0)] m0 mh → (0 ≤ a1 ∧ a1 ≤ 3) → (0 ≤ x2 ∧ x2 ≤ 4) → (0 ≤ mh a0 2 ∧ mh a0 2 ≤ 0) → (4 - x2) * 1229 + 1228 < (k : Int) → zw (zu_ex (zt_T n) 176 18 [(40, a0), (0, a1), (0, x2), (2, 0), (2, 0), (2, 0)] [] mh) (fun v m => zi_I m ∧ zfr [(15, 3), (15, 54), (83, 0), (84, 0)] m0 m ∧ ((-8) ≤ v ∧ v ≤ 15) ∧ (0 ≤ m a0 2 ∧ m a0 2 ≤ 0))) ∧ (∀ (x2 x3 : Int) (mh : zu_m), zi_I mh → zfr [(15, 3), (15, 54), (83, 0), (84, 0)] m0 mh → (0 ≤ a1 ∧ a1 ≤ 3) → (0 ≤ x2 ∧ x2 ≤ 3) → (1 ≤ x3 ∧ x3 ≤ 4) → (1 ≤ mh a0 15 ∧ mh a0 15 ≤ 4) → (0 ≤ mh a0 2 ∧ mh a0 2 ≤ 0) → (4 - x3) * 307 + (4 - x2) * 1229 + 306 < (k : Int) → zw (zu_ex (zt_T n) 176 30 [(40, a0), (0, a1), (0, x2), (0, x3), (2, 0), (2, 0)] [] mh) (fun v m => zi_I m ∧ zfr [(15, 3), (15, 54), (83, 0), (84, 0)] m0 m ∧ ((-8) ≤ v ∧ v ≤ 15) ∧ (0 ≤ m a0 2 ∧ m a0 2 ≤ 0))) ∧ (∀ (x2 x3 x4 : Int) (mh : zu_m), zi_I mh → zfr [(15, 3), (15, 54), (83, 0), (84, 0)] m0 mh → (0 ≤ a1 ∧ a1 ≤ 3) → (0 ≤ x2 ∧ x2 ≤ 3) → (1 ≤ x3 ∧ x3 ≤ 3) → (0 ≤ x4 ∧ x4 ≤ 16) → (2 ≤ mh a0 15 ∧ mh a0 15 ≤ 4) → (0 ≤ mh a0 2 ∧ mh a0 2 ≤ 0) → (16 - x4) * 18 + (4 - x3) * 307 + (4 - x2) * 1229 + 17 < (k : Int) → zw (zu_ex (zt_T n) 176 41 [(40, a0), (0, a1), (0, x2), (0, x3), (0, x4), (2, 0)] [] mh) (fun v m => zi_I m ∧ zfr [(15, 3), (15, 54), (83, 0), (84, 0)] m0 m ∧ ((-8) ≤ v ∧ v ≤ 15) ∧ (0 ≤ m a0 2 ∧ m a0 2 ≤ 0))) ∧ (∀ (x2 x3 x4 x5 : Int) (mh : zu_m), zi_I mh → zfr [(15, 3), (15, 54), (83, 0), (84, 0)] m0 mh → (0 ≤ a1 ∧ a1 ≤ 3) → (0 ≤ x2 ∧ x2 ≤ 3) → (1 ≤ x3 ∧ x3 ≤ 3) → (0 ≤ x4 ∧ x4 ≤ 15) → (0 ≤ x5 ∧ x5 ≤ 16) → (1 ≤ mh 216 0 ∧ mh 216 0 ≤ 16) → (2 ≤ mh a0 15 ∧ mh a0 15 ≤ 4) → (0 ≤ mh a0 2 ∧ mh a0 2 ≤ 0) → (16 - x5) * 1 + (16 - x4) * 18 + (4 - x3) * 307 + (4 - x2) * 1229 + 0 < (k : Int) → zw (zu_ex (zt_T n) 176 55 [(40, a0), (0, a1), (0, x2), (0, x3), (0, x4), (0, x5)] [] mh) (fun v m => zi_I m ∧ zfr [(15, 3), (15, 54), (83, 0), (84, 0)] m0 m ∧ ((-8) ≤ v ∧ v ≤ 15) ∧ (0 ≤ m a0 2 ∧ m a0 2 ≤ 0))) := by
  intro k
  induction k with
  | zero => exact ⟨fun x2 mh hImh hFmh hba1 hbx2 hg2 hM => by exfalso; omega, fun x2 x3 mh hImh hFmh hba1 hbx2 hbx3 hg3 hg4 hM => by exfalso; omega, fun x2 x3 x4 mh hImh hFmh hba1 hbx2 hbx3 hbx4 hg4 hg5 hM => by exfalso; omega, fun x2 x3 x4 x5 mh hImh hFmh hba1 hbx2 hbx3 hbx4 hbx5 hg5 hg6 hg7 hM => by exfalso; omega⟩
  | succ k ih =>
    refine ⟨?_, ?_, ?_, ?_⟩
    · intro x2 mh hImh hFmh hba1 hbx2 hg2 hM
      refine zw_eq (zr_176_18 n a0 a1 x2 mh) ?_
      have r1 : 0 ≤ (mh a0 15) ∧ (mh a0 15) ≤ 4 := zi_rd hImh hc0 zb_15_15
      refine zw_ite (fun h2 => ?_) (fun h2 => ?_)
      · exact zw_some ⟨hImh, hFmh, ⟨by omega, by omega⟩, ⟨by omega, by omega⟩⟩
      · have w3 := zu_w32_id (z := x2 + 1) (by omega) (by omega)
        have hM : (4 - (zu_w32 (x2 + 1))) * 307 + (4 - x2) * 1229 + 306 < (k : Int) := by omega
        exact ih.2.1 x2 (zu_w32 (x2 + 1)) mh hImh hFmh ⟨by omega, by omega⟩ ⟨by omega, by omega⟩ ⟨by omega, by omega⟩ ⟨by omega, by omega⟩ ⟨by omega, by omega⟩ hM
    · intro x2 x3 mh hImh hFmh hba1 hbx2 hbx3 hg3 hg4 hM
      refine zw_eq (zr_176_30 n a0 a1 x2 x3 mh) ?_
      refine zw_ite (fun h4 => ?_) (fun h4 => ?_)
      · have w5 := zu_w32_id (z := x2 + 1) (by omega) (by omega)
        have hM : (4 - (zu_w32 (x2 + 1))) * 1229 + 1228 < (k : Int) := by omega
        exact zw_le (zu_forget (zu_lr_same (zu_lr_same (zu_lr_same (zu_lr_drop (zu_lr_same (zu_lr_same zu_lr_nil))))))) (ih.1 (zu_w32 (x2 + 1)) mh hImh hFmh ⟨by omega, by omega⟩ ⟨by omega, by omega⟩ ⟨by omega, by omega⟩ hM)
      · have hM : (16 - 0) * 18 + (4 - x3) * 307 + (4 - x2) * 1229 + 17 < (k : Int) := by omega
        exact ih.2.2.1 x2 x3 0 mh hImh hFmh ⟨by omega, by omega⟩ ⟨by omega, by omega⟩ ⟨by omega, by omega⟩ ⟨by omega, by omega⟩ ⟨by omega, by omega⟩ ⟨by omega, by omega⟩ hM
    · intro x2 x3 x4 mh hImh hFmh hba1 hbx2 hbx3 hbx4 hg4 hg5 hM
      refine zw_eq (zr_176_41 n a0 a1 x2 x3 x4 mh) ?_
      have b6 : 0 ≤ (0 : Int) ∧ (0 : Int) < 2 := by omega
      refine zw_if b6 ?_
      have r7 : 0 ≤ (mh 216 0) ∧ (mh 216 0) ≤ 16 := zi_rdr (m := 2) (r0 := 0) (r1 := 0) hImh zq_216 (by omega) (by decide +kernel)
      refine zw_ite (fun h8 => ?_) (fun h8 => ?_)
      · have w9 := zu_w32_id (z := x3 + 1) (by omega) (by omega)
        have hM : (4 - (zu_w32 (x3 + 1))) * 307 + (4 - x2) * 1229 + 306 < (k : Int) := by omega
        exact zw_le (zu_forget (zu_lr_same (zu_lr_same (zu_lr_same (zu_lr_same (zu_lr_drop (zu_lr_same zu_lr_nil))))))) (ih.2.1 x2 (zu_w32 (x3 + 1)) mh hImh hFmh ⟨by omega, by omega⟩ ⟨by omega, by omega⟩ ⟨by omega, by omega⟩ ⟨by omega, by omega⟩ ⟨by omega, by omega⟩ hM)
      · have hM : (16 - 0) * 1 + (16 - x4) * 18 + (4 - x3) * 307 + (4 - x2) * 1229 + 0 < (k : Int) := by omega
        exact ih.2.2.2 x2 x3 x4 0 mh hImh hFmh ⟨by omega, by omega⟩ ⟨by omega, by omega⟩ ⟨by omega, by omega⟩ ⟨by omega, by omega⟩ ⟨by omega, by omega⟩ ⟨by omega, by omega⟩ ⟨by omega, by omega⟩ ⟨by omega, by omega⟩ hM
    · intro x2 x3 x4 x5 mh hImh hFmh hba1 hbx2 hbx3 hbx4 hbx5 hg5 hg6 hg7 hM
      refine zw_eq (zr_176_55 n a0 a1 x2 x3 x4 x5 mh) ?_
      have b10 : 0 ≤ (0 : Int) ∧ (0 : Int) < 2 := by omega
      refine zw_if b10 ?_
      refine zw_ite (fun h11 => ?_) (fun h11 => ?_)
      · have w12 := zu_w32_id (z := x4 + 1) (by omega) (by omega)
        have hM : (16 - (zu_w32 (x4 + 1))) * 18 + (4 - x3) * 307 + (4 - x2) * 1229 + 17 < (k : Int) := by omega
        exact zw_le (zu_forget (zu_lr_same (zu_lr_same (zu_lr_same (zu_lr_same (zu_lr_same (zu_lr_drop zu_lr_nil))))))) (ih.2.2.1 x2 x3 (zu_w32 (x4 + 1)) mh hImh hFmh ⟨by omega, by omega⟩ ⟨by omega, by omega⟩ ⟨by omega, by omega⟩ ⟨by omega, by omega⟩ ⟨by omega, by omega⟩ ⟨by omega, by omega⟩ hM)
      · have b13 : 0 ≤ x4 ∧ x4 < 36 := by omega
        refine zw_if b13 ?_
        have r14 : (-3) ≤ (mh 215 x4) ∧ (mh 215 x4) ≤ 3 := zi_rd hImh zq_215 (zb_85 _)
        refine zw_ite (fun h15 => ?_) (fun h15 => ?_)
        · have w16 := zu_w32_id (z := x4 + 1) (by omega) (by omega)
          have hM : (16 - (zu_w32 (x4 + 1))) * 18 + (4 - x3) * 307 + (4 - x2) * 1229 + 17 < (k : Int) := by omega
          exact zw_le (zu_forget (zu_lr_same (zu_lr_same (zu_lr_same (zu_lr_same (zu_lr_same (zu_lr_drop zu_lr_nil))))))) (ih.2.2.1 x2 x3 (zu_w32 (x4 + 1)) mh hImh hFmh ⟨by omega, by omega⟩ ⟨by omega, by omega⟩ ⟨by omega, by omega⟩ ⟨by omega, by omega⟩ ⟨by omega, by omega⟩ ⟨by omega, by omega⟩ hM)
        · have b17 : 0 ≤ x5 ∧ x5 < 36 := by omega
          refine zw_if b17 ?_
          have r18 : (-3) ≤ (mh 215 x5) ∧ (mh 215 x5) ≤ 3 := zi_rd hImh zq_215 (zb_85 _)
          refine zw_ite (fun h19 => ?_) (fun h19 => ?_)
          · have w20 := zu_w32_id (z := x5 + 1) (by omega) (by omega)
            have hM : (16 - (zu_w32 (x5 + 1))) * 1 + (16 - x4) * 18 + (4 - x3) * 307 + (4 - x2) * 1229 + 0 < (k : Int) := by omega
            exact ih.2.2.2 x2 x3 x4 (zu_w32 (x5 + 1)) mh hImh hFmh ⟨by omega, by omega⟩ ⟨by omega, by omega⟩ ⟨by omega, by omega⟩ ⟨by omega, by omega⟩ ⟨by omega, by omega⟩ ⟨by omega, by omega⟩ ⟨by omega, by omega⟩ ⟨by omega, by omega⟩ hM
          · refine zw_bd (zw_mono (zk_175 n hImh hc0 ⟨by omega, by omega⟩ ⟨by omega, by omega⟩ ⟨by omega, by omega⟩ ⟨by omega, by omega⟩) (fun v22 m21 hqm21 => ?_))
            obtain ⟨hIm21, hfm21, hvm21⟩ := hqm21
            have hFm21 := zfr_tr hFmh hfm21 rfl
            refine zw_ite (fun h23 => ?_) (fun h23 => ?_)
            · have w24 := zu_w32_id (z := x5 + 1) (by omega) (by omega)
              have r25 : (-2147483648) ≤ (m21 a0 2) ∧ (m21 a0 2) ≤ 2147483647 := zi_rd hIm21 hc0 zb_15_2
              have e26 : (m21 a0 2) = (mh a0 2) := (zfr_ap hfm21 hc0 rfl)
              have r27 : 0 ≤ (m21 a0 15) ∧ (m21 a0 15) ≤ 4 := zi_rd hIm21 hc0 zb_15_15
              have e28 : (m21 a0 15) = (mh a0 15) := (zfr_ap hfm21 hc0 rfl)
              have r29 : 0 ≤ (m21 216 0) ∧ (m21 216 0) ≤ 16 := zi_rdr (m := 2) (r0 := 0) (r1 := 0) hIm21 zq_216 (by omega) (by decide +kernel)
              have e30 : (m21 216 0) = (mh 216 0) := (zfr_ap hfm21 zq_216 rfl)
              have hM : (16 - (zu_w32 (x5 + 1))) * 1 + (16 - x4) * 18 + (4 - x3) * 307 + (4 - x2) * 1229 + 0 < (k : Int) := by omega
              exact ih.2.2.2 x2 x3 x4 (zu_w32 (x5 + 1)) m21 hIm21 hFm21 ⟨by omega, by omega⟩ ⟨by omega, by omega⟩ ⟨by omega, by omega⟩ ⟨by omega, by omega⟩ ⟨by omega, by omega⟩ ⟨by omega, by omega⟩ ⟨by omega, by omega⟩ ⟨by omega, by omega⟩ hM
            · refine zw_ite (fun h31 => ?_) (fun h31 => ?_)
              · refine zw_ite (fun h32 => ?_) (fun h32 => ?_)
                · refine zw_ite (fun h33 => ?_) (fun h33 => ?_)
                  · have r34 : (-2147483648) ≤ (m21 a0 2) ∧ (m21 a0 2) ≤ 2147483647 := zi_rd hIm21 hc0 zb_15_2
                    have e35 : (m21 a0 2) = (mh a0 2) := (zfr_ap hfm21 hc0 rfl)
                    exact zw_some ⟨hIm21, hFm21, ⟨by omega, by omega⟩, ⟨by omega, by omega⟩⟩
                  · have r36 : (-2147483648) ≤ (m21 a0 2) ∧ (m21 a0 2) ≤ 2147483647 := zi_rd hIm21 hc0 zb_15_2
                    have e37 : (m21 a0 2) = (mh a0 2) := (zfr_ap hfm21 hc0 rfl)
                    exact zw_some ⟨hIm21, hFm21, ⟨by omega, by omega⟩, ⟨by omega, by omega⟩⟩
                · have r38 : (-2147483648) ≤ (m21 a0 2) ∧ (m21 a0 2) ≤ 2147483647 := zi_rd hIm21 hc0 zb_15_2
                  have e39 : (m21 a0 2) = (mh a0 2) := (zfr_ap hfm21 hc0 rfl)
                  exact zw_some ⟨hIm21, hFm21, ⟨by omega, by omega⟩, ⟨by omega, by omega⟩⟩
              · have r40 : (-2147483648) ≤ (m21 a0 2) ∧ (m21 a0 2) ≤ 2147483647 := zi_rd hIm21 hc0 zb_15_2
                have e41 : (m21 a0 2) = (mh a0 2) := (zfr_ap hfm21 hc0 rfl)
                exact zw_some ⟨hIm21, hFm21, ⟨by omega, by omega⟩, ⟨by omega, by omega⟩⟩
set_option maxHeartbeats 4000000 in
theorem zk_176 (n : Nat) {a0 a1 : Int} {m0 : zu_m} (hIm0 : zi_I m0) (hc0 : zcls a0 = 15) (ha1 : (-2147483648) ≤ a1 ∧ a1 ≤ 2147483647)    : zw (zu_call (zt_T n) 176 [(40, a0), (0, a1)] m0) (fun v m => zi_I m ∧ zfr [(15, 3), (15, 54), (83, 0), (84, 0)] m0 m ∧ ((-8) ≤ v ∧ v ≤ 15) ∧ (0 ≤ m a0 2 ∧ m a0 2 ≤ 0)) := by
  have hFm0 : zfr [(15, 3), (15, 54), (83, 0), (84, 0)] m0 m0 := zfr_rf _ _
  refine zw_eq (zr_176_0 n a0 a1 m0) ?_
  generalize hmm42 : zu_up m0 a0 2 0 = m42
  have hIm42 := zi_up hmm42 hIm0 hc0 zb_15_2 (by omega) (by omega)
  have hFm42 := zfr_up hmm42 hFm0 hc0 rfl
  refine zw_bd (zw_eq (zr_83_0 n a1 0 3 m42) ?_)
  refine zw_ite (fun h43 => ?_) (fun h43 => ?_)
  · refine zw_b (by omega) ?_
    refine zw_some ?_
    refine zw_ite (fun h44 => ?_) (fun h44 => ?_)
    · exfalso; omega
    · have r45 : (-2147483648) ≤ (m42 a0 2) ∧ (m42 a0 2) ≤ 2147483647 := zi_rd hIm42 hc0 zb_15_2
      have e46 : (m42 a0 2) = 0 := (zs_eq hmm42)
      exact zw_some ⟨hIm42, hFm42, ⟨by omega, by omega⟩, ⟨by omega, by omega⟩⟩
  · refine zw_ite (fun h47 => ?_) (fun h47 => ?_)
    · refine zw_b (by omega) ?_
      refine zw_some ?_
      refine zw_ite (fun h48 => ?_) (fun h48 => ?_)
      · exfalso; omega
      · have r49 : (-2147483648) ≤ (m42 a0 2) ∧ (m42 a0 2) ≤ 2147483647 := zi_rd hIm42 hc0 zb_15_2
        have e50 : (m42 a0 2) = 0 := (zs_eq hmm42)
        exact zw_some ⟨hIm42, hFm42, ⟨by omega, by omega⟩, ⟨by omega, by omega⟩⟩
    · refine zw_b (by omega) ?_
      refine zw_some ?_
      refine zw_ite (fun h51 => ?_) (fun h51 => ?_)
      · have r52 : (-2147483648) ≤ (m42 a0 2) ∧ (m42 a0 2) ≤ 2147483647 := zi_rd hIm42 hc0 zb_15_2
        have e53 : (m42 a0 2) = 0 := (zs_eq hmm42)
        have hM : (4 - 0) * 1229 + 1228 < ((6145 : Nat) : Int) := by omega
        exact (zl_176 n (m0 := m0) hc0 6145).1 0 m42 hIm42 hFm42 ⟨by omega, by omega⟩ ⟨by omega, by omega⟩ ⟨by omega, by omega⟩ hM
      · exfalso; omega
set_option maxHeartbeats 4000000 in
theorem zl_285 (n : Nat) {a0 a1 a2 a3 a4 : Int} {m0 : zu_m} (hc0 : zcls a0 = 14)  : ∀ k : Nat, (∀ (x5 : Int) (mh : zu_m), zi_I mh → zfr [(7, 1), (7, 2), (7, 3), (7, 4), (8, 1), (8, 2), (8, 3), (8, 4), (8, 5), (8, 6), (8, 7), (8, 8), (11, 3), (11, 5), (11, 9), (11, 10), (11, 11), (11, 12), (14, 7), (14, 14), (14, 15), (14, 16), (24, 0), (27, 0), (38, 0), (39, 0), (51, 0), (52, 0), (53, 0), (54, 0), (55, 0), (56, 0), (57, 0), (58, 0)] m0 mh → (1 ≤ a1 ∧ a1 ≤ 2) → (0 ≤ a2 ∧ a2 ≤ 3) → (0 ≤ a3 ∧ a3 ≤ 9) → (1 ≤ a4 ∧ a4 ≤ 40) → (0 ≤ x5 ∧ x5 ≤ 256) → (256 - x5) * 1 + 2401 < (k : Int) → zw (zu_ex (zt_T n) 285 13 [(33, a0), (0, a1), (0, a2), (0, a3), (0, a4), (0, x5), (2, 0)] [] mh) (fun v m => zi_I m ∧ zfr [(7, 1), (7, 2), (7, 3), (7, 4), (8, 1), (8, 2), (8, 3), (8, 4), (8, 5), (8, 6), (8, 7), (8, 8), (11, 3), (11, 5), (11, 9), (11, 10), (11, 11), (11, 12), (14, 7), (14, 14), (14, 15), (14, 16), (24, 0), (27, 0), (38, 0), (39, 0), (51, 0), (52, 0), (53, 0), (54, 0), (55, 0), (56, 0), (57, 0), (58, 0)] m0 m ∧ True)) ∧ (∀ (x5 : Int) (mh : zu_m), zi_I mh → zfr [(7, 1), (7, 2), (7, 3), (7, 4), (8, 1), (8, 2), (8, 3), (8, 4), (8, 5), (8, 6), (8, 7), (8, 8), (11, 3), (11, 5), (11, 9), (11, 10), (11, 11), (11, 12), (14, 7), (14, 14), (14, 15), (14, 16), (24, 0), (27, 0), (38, 0), (39, 0), (51, 0), (52, 0), (53, 0), (54, 0), (55, 0), (56, 0), (57, 0), (58, 0)] m0 mh → (1 ≤ a1 ∧ a1 ≤ 2) → (0 ≤ a2 ∧ a2 ≤ 3) → (0 ≤ a3 ∧ a3 ≤ 9) → (1 ≤ a4 ∧ a4 ≤ 40) → (0 ≤ x5 ∧ x5 ≤ 48) → (48 - x5) * 49 + 48 < (k : Int) → zw (zu_ex (zt_T n) 285 60 [(33, a0), (0, a1), (0, a2), (0, a3), (0, a4), (0, x5), (2, 0)] [] mh) (fun v m => zi_I m ∧ zfr [(7, 1), (7, 2), (7, 3), (7, 4), (8, 1), (8, 2), (8, 3), (8, 4), (8, 5), (8, 6), (8, 7), (8, 8), (11, 3), (11, 5), (11, 9), (11, 10), (11, 11), (11, 12), (14, 7), (14, 14), (14, 15), (14, 16), (24, 0), (27, 0), (38, 0), (39, 0), (51, 0), (52, 0), (53, 0), (54, 0), (55, 0), (56, 0), (57, 0), (58, 0)] m0 m ∧ True)) ∧ (∀ (x5 x6 : Int) (mh : zu_m), zi_I mh → zfr [(7, 1), (7, 2), (7, 3), (7, 4), (8, 1), (8, 2), (8, 3), (8, 4), (8, 5), (8, 6), (8, 7), (8, 8), (11, 3), (11, 5), (11, 9), (11, 10), (11, 11), (11, 12), (14, 7), (14, 14), (14, 15), (14, 16), (24, 0), (27, 0), (38, 0), (39, 0), (51, 0), (52, 0), (53, 0), (54, 0), (55, 0), (56, 0), (57, 0), (58, 0)] m0 mh → (1 ≤ a1 ∧ a1 ≤ 2) → (0 ≤ a2 ∧ a2 ≤ 3) → (0 ≤ a3 ∧ a3 ≤ 9) → (1 ≤ a4 ∧ a4 ≤ 40) → (0 ≤ x5 ∧ x5 ≤ 47) → (1 ≤ x6 ∧ x6 ≤ 48) → (48 - x6) * 1 + (48 - x5) * 49 + 0 < (k : Int) → zw (zu_ex (zt_T n) 285 92 [(33, a0), (0, a1), (0, a2), (0, a3), (0, a4), (0, x5), (0, x6)] [] mh) (fun v m => zi_I m ∧ zfr [(7, 1), (7, 2), (7, 3), (7, 4), (8, 1), (8, 2), (8, 3), (8, 4), (8, 5), (8, 6), (8, 7), (8, 8), (11, 3), (11, 5), (11, 9), (11, 10), (11, 11), (11, 12), (14, 7), (14, 14), (14, 15), (14, 16), (24, 0), (27, 0), (38, 0), (39, 0), (51, 0), (52, 0), (53, 0), (54, 0), (55, 0), (56, 0), (57, 0), (58, 0)] m0 m ∧ True)) := by
  intro k
  induction k with
  | zero => exact ⟨fun x5 mh hImh hFmh hba1 hba2 hba3 hba4 hbx5 hM => by exfalso; omega, fun x5 mh hImh hFmh hba1 hba2 hba3 hba4 hbx5 hM => by exfalso; omega, fun x5 x6 mh hImh hFmh hba1 hba2 hba3 hba4 hbx5 hbx6 hM => by exfalso; omega⟩
  | succ k ih =>
    refine ⟨?_, ?_, ?_⟩
    · intro x5 mh hImh hFmh hba1 hba2 hba3 hba4 hbx5 hM
      refine zw_eq (zr_285_13 n a0 a1 a2 a3 a4 x5 mh) ?_
      refine zw_ite (fun h1 => ?_) (fun h1 => ?_)
      · refine zw_bd (zw_mono (zk_286 n hImh hc0 ⟨by omega, by omega⟩) (fun v3 m2 hqm2 => ?_))
        obtain ⟨hIm2, hfm2, hvm2⟩ := hqm2
        have hFm2 := zfr_tr hFmh hfm2 rfl
        generalize hmm4 : zu_up m2 a0 15 1000000 = m4
        have hIm4 := zi_up hmm4 hIm2 hc0 zb_14_15 (by omega) (by omega)
        have hFm4 := zfr_up hmm4 hFm2 hc0 rfl
        have hM : (48 - 0) * 49 + 48 < (k : Int) := by omega
        exact ih.2.1 0 m4 hIm4 hFm4 ⟨by omega, by omega⟩ ⟨by omega, by omega⟩ ⟨by omega, by omega⟩ ⟨by omega, by omega⟩ ⟨by omega, by omega⟩ hM
      · have b5 : 0 ≤ x5 ∧ x5 < 256 := by omega
        refine zw_if b5 ?_
        generalize hmm6 : zu_up mh 159 x5 0 = m6
        have hIm6 := zi_up hmm6 hImh zq_159 (zb_56 _) (by omega) (by omega)
        have hFm6 := zfr_up hmm6 hFmh zq_159 rfl
        have b7 : 0 ≤ x5 ∧ x5 < 256 := by omega
        refine zw_if b7 ?_
        generalize hmm8 : zu_up m6 160 x5 0 = m8
        have hIm8 := zi_up hmm8 hIm6 zq_160 (zb_57 _) (by omega) (by omega)
        have hFm8 := zfr_up hmm8 hFm6 zq_160 rfl
        have w9 := zu_w32_id (z := x5 + 1) (by omega) (by omega)
        have hM : (256 - (zu_w32 (x5 + 1))) * 1 + 2401 < (k : Int) := by omega
        exact ih.1 (zu_w32 (x5 + 1)) m8 hIm8 hFm8 ⟨by omega, by omega⟩ ⟨by omega, by omega⟩ ⟨by omega, by omega⟩ ⟨by omega, by omega⟩ ⟨by omega, by omega⟩ hM
    · intro x5 mh hImh hFmh hba1 hba2 hba3 hba4 hbx5 hM
      refine zw_eq (zr_285_60 n a0 a1 a2 a3 a4 x5 mh) ?_
      have r10 : 1 ≤ (mh 50 2) ∧ (mh 50 2) ≤ 48 := zi_rd hImh zq_50 zb_4_2
      refine zw_ite (fun h11 => ?_) (fun h11 => ?_)
      · exact zw_some ⟨hImh, hFmh, trivial⟩
      · refine zw_ite (fun h12 => ?_) (fun h12 => ?_)
        · have w13 := zu_w32_id (z := x5 + 1) (by omega) (by omega)
          have hM : (48 - (zu_w32 (x5 + 1))) * 1 + (48 - x5) * 49 + 0 < (k : Int) := by omega
          exact ih.2.2 x5 (zu_w32 (x5 + 1)) mh hImh hFmh ⟨by omega, by omega⟩ ⟨by omega, by omega⟩ ⟨by omega, by omega⟩ ⟨by omega, by omega⟩ ⟨by omega, by omega⟩ ⟨by omega, by omega⟩ hM
        · refine zw_bd (zw_mono (zk_287 n hImh hc0 ⟨by omega, by omega⟩ ⟨by omega, by omega⟩ ⟨by omega, by omega⟩) (fun v15 m14 hqm14 => ?_))
          obtain ⟨hIm14, hfm14, hvm14⟩ := hqm14
          have hFm14 := zfr_tr hFmh hfm14 rfl
          have w16 := zu_w32_id (z := x5 + 1) (by omega) (by omega)
          have hM : (48 - (zu_w32 (x5 + 1))) * 1 + (48 - x5) * 49 + 0 < (k : Int) := by omega
          exact ih.2.2 x5 (zu_w32 (x5 + 1)) m14 hIm14 hFm14 ⟨by omega, by omega⟩ ⟨by omega, by omega⟩ ⟨by omega, by omega⟩ ⟨by omega, by omega⟩ ⟨by omega, by omega⟩ ⟨by omega, by omega⟩ hM
    · intro x5 x6 mh hImh hFmh hba1 hba2 hba3 hba4 hbx5 hbx6 hM
      refine zw_eq (zr_285_92 n a0 a1 a2 a3 a4 x5 x6 mh) ?_
      have r17 : 1 ≤ (mh 50 2) ∧ (mh 50 2) ≤ 48 := zi_rd hImh zq_50 zb_4_2
      refine zw_ite (fun h18 => ?_) (fun h18 => ?_)
      · have w19 := zu_w32_id (z := x5 + 1) (by omega) (by omega)
        have hM : (48 - (zu_w32 (x5 + 1))) * 49 + 48 < (k : Int) := by omega
        exact zw_le (zu_forget (zu_lr_same (zu_lr_same (zu_lr_same (zu_lr_same (zu_lr_same (zu_lr_same (zu_lr_drop zu_lr_nil)))))))) (ih.2.1 (zu_w32 (x5 + 1)) mh hImh hFmh ⟨by omega, by omega⟩ ⟨by omega, by omega⟩ ⟨by omega, by omega⟩ ⟨by omega, by omega⟩ ⟨by omega, by omega⟩ hM)
      · refine zw_ite (fun h20 => ?_) (fun h20 => ?_)
        · have w21 := zu_w32_id (z := x5 + 1) (by omega) (by omega)
          have hM : (48 - (zu_w32 (x5 + 1))) * 49 + 48 < (k : Int) := by omega
          exact zw_le (zu_forget (zu_lr_same (zu_lr_same (zu_lr_same (zu_lr_same (zu_lr_same (zu_lr_same (zu_lr_drop zu_lr_nil)))))))) (ih.2.1 (zu_w32 (x5 + 1)) mh hImh hFmh ⟨by omega, by omega⟩ ⟨by omega, by omega⟩ ⟨by omega, by omega⟩ ⟨by omega, by omega⟩ ⟨by omega, by omega⟩ hM)
        · refine zw_bd (zw_mono (zk_287 n hImh hc0 ⟨by omega, by omega⟩ ⟨by omega, by omega⟩ ⟨by omega, by omega⟩) (fun v23 m22 hqm22 => ?_))
          obtain ⟨hIm22, hfm22, hvm22⟩ := hqm22
          have hFm22 := zfr_tr hFmh hfm22 rfl
          have w24 := zu_w32_id (z := x6 + 1) (by omega) (by omega)
          have hM : (48 - (zu_w32 (x6 + 1))) * 1 + (48 - x5) * 49 + 0 < (k : Int) := by omega
          exact ih.2.2 x5 (zu_w32 (x6 + 1)) m22 hIm22 hFm22 ⟨by omega, by omega⟩ ⟨by omega, by omega⟩ ⟨by omega, by omega⟩ ⟨by omega, by omega⟩ ⟨by omega, by omega⟩ ⟨by omega, by omega⟩ hM
set_option maxHeartbeats 4000000 in
theorem zk_285 (n : Nat) {a0 a1 a2 a3 a4 : Int} {m0 : zu_m} (hIm0 : zi_I m0) (hc0 : zcls a0 = 14) (ha1 : 1 ≤ a1 ∧ a1 ≤ 2) (ha2 : 0 ≤ a2 ∧ a2 ≤ 3) (ha3 : 0 ≤ a3 ∧ a3 ≤ 9) (ha4 : 1 ≤ a4 ∧ a4 ≤ 40)    : zw (zu_call (zt_T n) 285 [(33, a0), (0, a1), (0, a2), (0, a3), (0, a4)] m0) (fun v m => zi_I m ∧ zfr [(7, 1), (7, 2), (7, 3), (7, 4), (8, 1), (8, 2), (8, 3), (8, 4), (8, 5), (8, 6), (8, 7), (8, 8), (11, 3), (11, 5), (11, 9), (11, 10), (11, 11), (11, 12), (14, 7), (14, 14), (14, 15), (14, 16), (24, 0), (27, 0), (38, 0), (39, 0), (51, 0), (52, 0), (53, 0), (54, 0), (55, 0), (56, 0), (57, 0), (58, 0)] m0 m ∧ True) := by
  have hFm0 : zfr [(7, 1), (7, 2), (7, 3), (7, 4), (8, 1), (8, 2), (8, 3), (8, 4), (8, 5), (8, 6), (8, 7), (8, 8), (11, 3), (11, 5), (11, 9), (11, 10), (11, 11), (11, 12), (14, 7), (14, 14), (14, 15), (14, 16), (24, 0), (27, 0), (38, 0), (39, 0), (51, 0), (52, 0), (53, 0), (54, 0), (55, 0), (56, 0), (57, 0), (58, 0)] m0 m0 := zfr_rf _ _
  refine zw_eq (zr_285_0 n a0 a1 a2 a3 a4 m0) ?_
  generalize hmm25 : zu_up m0 a0 13 a2 = m25
  have hIm25 := zi_up hmm25 hIm0 hc0 zb_14_13 (by omega) (by omega)
  have hFm25 := zfr_up hmm25 hFm0 hc0 rfl
  generalize hmm26 : zu_up m25 a0 14 a3 = m26
  have hIm26 := zi_up hmm26 hIm25 hc0 zb_14_14 (by omega) (by omega)
  have hFm26 := zfr_up hmm26 hFm25 hc0 rfl
  have hM : (256 - 0) * 1 + 2401 < ((2658 : Nat) : Int) := by omega
  exact (zl_285 n (m0 := m0) hc0 2658).1 0 m26 hIm26 hFm26 ⟨by omega, by omega⟩ ⟨by omega, by omega⟩ ⟨by omega, by omega⟩ ⟨by omega, by omega⟩ ⟨by omega, by omega⟩ hM
set_option maxHeartbeats 4000000 in
theorem zl_300 (n : Nat) {a0 a1 : Int} {m0 : zu_m} (hc0 : zcls a0 = 14)  : ∀ k : Nat, (∀ (x2 x3 x4 : Int) (mh : zu_m), zi_I mh → zfr [(7, 1), (7, 2), (7, 3), (7, 4), (8, 1), (8, 2), (8, 3), (8, 4), (8, 5), (8, 6), (8, 7), (8, 8), (11, 3), (11, 5), (11, 9), (11, 10), (11, 11), (11, 12), (24, 0), (27, 0), (38, 0), (39, 0)] m0 mh → (1 ≤ a1 ∧ a1 ≤ 200) → (0 ≤ x2 ∧ x2 ≤ 2) → ((-2147483648) ≤ x3 ∧ x3 ≤ 1000000) → (0 ≤ x4 ∧ x4 ≤ 3) → (3 - x4) * 1 + 0 < (k : Int) → zw (zu_ex (zt_T n) 300 8 [(33, a0), (0, a1), (0, x2), (0, x3), (0, x4), (2, 0)] [] mh) (fun v m => zi_I m ∧ zfr [(7, 1), (7, 2), (7, 3), (7, 4), (8, 1), (8, 2), (8, 3), (8, 4), (8, 5), (8, 6), (8, 7), (8, 8), (11, 3), (11, 5), (11, 9), (11, 10), (11, 11), (11, 12), (24, 0), (27, 0), (38, 0), (39, 0)] m0 m ∧ (0 ≤ v ∧ v ≤ 2))) := by
  intro k
  induction k with
  | zero => exact fun x2 x3 x4 mh hImh hFmh hba1 hbx2 hbx3 hbx4 hM => by exfalso; omega
  | succ k ih =>
    intro x2 x3 x4 mh hImh hFmh hba1 hbx2 hbx3 hbx4 hM
    refine zw_eq (zr_300_8 n a0 a1 x2 x3 x4 mh) ?_
    refine zw_ite (fun h1 => ?_) (fun h1 => ?_)
    · exact zw_some ⟨hImh, hFmh, ⟨by omega, by omega⟩⟩
    · refine zw_bd (zw_mono (zk_299 n hImh hc0 ⟨by omega, by omega⟩ ⟨by omega, by omega⟩) (fun v3 m2 hqm2 => ?_))
      obtain ⟨hIm2, hfm2, hvm2⟩ := hqm2
      have hFm2 := zfr_tr hFmh hfm2 rfl
      refine zw_ite (fun h4 => ?_) (fun h4 => ?_)
      · have w5 := zu_w32_id (z := x4 + 1) (by omega) (by omega)
        have hM : (3 - (zu_w32 (x4 + 1))) * 1 + 0 < (k : Int) := by omega
        exact zw_le (zu_forget (zu_lr_same (zu_lr_same (zu_lr_same (zu_lr_same (zu_lr_same (zu_lr_drop zu_lr_nil))))))) (ih x2 x3 (zu_w32 (x4 + 1)) m2 hIm2 hFm2 ⟨by omega, by omega⟩ ⟨by omega, by omega⟩ ⟨by omega, by omega⟩ ⟨by omega, by omega⟩ hM)
      · have w6 := zu_w32_id (z := x4 + 1) (by omega) (by omega)
        have hM : (3 - (zu_w32 (x4 + 1))) * 1 + 0 < (k : Int) := by omega
        exact zw_le (zu_forget (zu_lr_same (zu_lr_same (zu_lr_same (zu_lr_same (zu_lr_same (zu_lr_drop zu_lr_nil))))))) (ih x4 v3 (zu_w32 (x4 + 1)) m2 hIm2 hFm2 ⟨by omega, by omega⟩ ⟨by omega, by omega⟩ ⟨by omega, by omega⟩ ⟨by omega, by omega⟩ hM)
set_option maxHeartbeats 4000000 in
theorem zk_300 (n : Nat) {a0 a1 : Int} {m0 : zu_m} (hIm0 : zi_I m0) (hc0 : zcls a0 = 14) (ha1 : 1 ≤ a1 ∧ a1 ≤ 200)    : zw (zu_call (zt_T n) 300 [(33, a0), (0, a1)] m0) (fun v m => zi_I m ∧ zfr [(7, 1), (7, 2), (7, 3), (7, 4), (8, 1), (8, 2), (8, 3), (8, 4), (8, 5), (8, 6), (8, 7), (8, 8), (11, 3), (11, 5), (11, 9), (11, 10), (11, 11), (11, 12), (24, 0), (27, 0), (38, 0), (39, 0)] m0 m ∧ (0 ≤ v ∧ v ≤ 2)) := by
  have hFm0 : zfr [(7, 1), (7, 2), (7, 3), (7, 4), (8, 1), (8, 2), (8, 3), (8, 4), (8, 5), (8, 6), (8, 7), (8, 8), (11, 3), (11, 5), (11, 9), (11, 10), (11, 11), (11, 12), (24, 0), (27, 0), (38, 0), (39, 0)] m0 m0 := zfr_rf _ _
  refine zw_eq (zr_300_0 n a0 a1 m0) ?_
  have hM : (3 - 0) * 1 + 0 < ((4 : Nat) : Int) := by omega
  exact (zl_300 n (m0 := m0) hc0 4) 0 1000000 0 m0 hIm0 hFm0 ⟨by omega, by omega⟩ ⟨by omega, by omega⟩ ⟨by omega, by omega⟩ ⟨by omega, by omega⟩ hM
set_option maxHeartbeats 4000000 in
theorem zl_301 (n : Nat) {a0 a1 : Int} {m0 : zu_m} (hc0 : zcls a0 = 14)  : ∀ k : Nat, (∀ (x2 x3 : Int) (mh : zu_m), zi_I mh → zfr [(7, 1), (7, 2), (7, 3), (7, 4), (8, 1), (8, 2), (8, 3), (8, 4), (8, 5), (8, 6), (8, 7), (8, 8), (11, 3), (11, 5), (11, 9), (11, 10), (11, 11), (11, 12), (24, 0), (27, 0), (38, 0), (39, 0), (46, 0)] m0 mh → (0 ≤ a1 ∧ a1 ≤ 3) → ((-2147483648) ≤ x2 ∧ x2 ≤ 2147483647) → (0 ≤ x3 ∧ x3 ≤ 31) → (31 - x3) * 1 + 0 < (k : Int) → zw (zu_ex (zt_T n) 301 11 [(33, a0), (0, a1), (0, x2), (0, x3)] [] mh) (fun v m => zi_I m ∧ zfr [(7, 1), (7, 2), (7, 3), (7, 4), (8, 1), (8, 2), (8, 3), (8, 4), (8, 5), (8, 6), (8, 7), (8, 8), (11, 3), (11, 5), (11, 9), (11, 10), (11, 11), (11, 12), (24, 0), (27, 0), (38, 0), (39, 0), (46, 0)] m0 m ∧ ((-2147483648) ≤ v ∧ v ≤ 2147483647))) := by
  intro k
  induction k with
  | zero => exact fun x2 x3 mh hImh hFmh hba1 hbx2 hbx3 hM => by exfalso; omega
  | succ k ih =>
    intro x2 x3 mh hImh hFmh hba1 hbx2 hbx3 hM
    refine zw_eq (zr_301_11 n a0 a1 x2 x3 mh) ?_
    refine zw_ite (fun h1 => ?_) (fun h1 => ?_)
    · exact zw_some ⟨hImh, hFmh, ⟨by omega, by omega⟩⟩
    · refine zw_bd (zw_mono (zk_302 n hImh hc0 ⟨by omega, by omega⟩ ⟨by omega, by omega⟩) (fun v3 m2 hqm2 => ?_))
      obtain ⟨hIm2, hfm2, hvm2⟩ := hqm2
      have hFm2 := zfr_tr hFmh hfm2 rfl
      refine zw_ite (fun h4 => ?_) (fun h4 => ?_)
      · have w5 := zu_w32_id (z := x3 + 1) (by omega) (by omega)
        have hM : (31 - (zu_w32 (x3 + 1))) * 1 + 0 < (k : Int) := by omega
        exact ih x2 (zu_w32 (x3 + 1)) m2 hIm2 hFm2 ⟨by omega, by omega⟩ ⟨by omega, by omega⟩ ⟨by omega, by omega⟩ hM
      · have b6 := zu_i32_rg 5 1 x3
        have b7 := zu_i32_rg 4 x2 (zu_i32 5 1 x3)
        have w8 := zu_w32_id (z := x3 + 1) (by omega) (by omega)
        have hM : (31 - (zu_w32 (x3 + 1))) * 1 + 0 < (k : Int) := by omega
        exact ih (zu_i32 4 x2 (zu_i32 5 1 x3)) (zu_w32 (x3 + 1)) m2 hIm2 hFm2 ⟨by omega, by omega⟩ ⟨by omega, by omega⟩ ⟨by omega, by omega⟩ hM
set_option maxHeartbeats 4000000 in
theorem zk_301 (n : Nat) {a0 a1 : Int} {m0 : zu_m} (hIm0 : zi_I m0) (hc0 : zcls a0 = 14) (ha1 : 0 ≤ a1 ∧ a1 ≤ 3)    : zw (zu_call (zt_T n) 301 [(33, a0), (0, a1)] m0) (fun v m => zi_I m ∧ zfr [(7, 1), (7, 2), (7, 3), (7, 4), (8, 1), (8, 2), (8, 3), (8, 4), (8, 5), (8, 6), (8, 7), (8, 8), (11, 3), (11, 5), (11, 9), (11, 10), (11, 11), (11, 12), (24, 0), (27, 0), (38, 0), (39, 0), (46, 0)] m0 m ∧ ((-2147483648) ≤ v ∧ v ≤ 2147483647)) := by
  have hFm0 : zfr [(7, 1), (7, 2), (7, 3), (7, 4), (8, 1), (8, 2), (8, 3), (8, 4), (8, 5), (8, 6), (8, 7), (8, 8), (11, 3), (11, 5), (11, 9), (11, 10), (11, 11), (11, 12), (24, 0), (27, 0), (38, 0), (39, 0), (46, 0)] m0 m0 := zfr_rf _ _
  refine zw_eq (zr_301_0 n a0 a1 m0) ?_
  refine zw_bd (zw_mono (zk_274 n hIm0 zq_141) (fun v10 m9 hqm9 => ?_))
  obtain ⟨hIm9, hfm9, hvm9⟩ := hqm9
  have hFm9 := zfr_tr hFm0 hfm9 rfl
  have hM : (31 - 0) * 1 + 0 < ((32 : Nat) : Int) := by omega
  exact (zl_301 n (m0 := m0) hc0 32) 0 0 m9 hIm9 hFm9 ⟨by omega, by omega⟩ ⟨by omega, by omega⟩ ⟨by omega, by omega⟩ hM
set_option maxHeartbeats 4000000 in
theorem zk_42 (n : Nat) {a0 a1 : Int} {m0 : zu_m} (hIm0 : zi_I m0) (hc0 : zcls a0 = 2) (ha1 : (-2147483648) ≤ a1 ∧ a1 ≤ 2147483647)    : zw (zu_call (zt_T n) 42 [(5, a0), (0, a1)] m0) (fun v m => zi_I m ∧ zfr [(2, 2), (2, 3), (2, 4), (2, 10), (3, 5), (3, 6), (3, 7), (3, 8), (3, 9), (3, 10), (3, 11), (4, 1), (4, 2), (4, 3), (4, 4), (4, 5), (4, 6), (5, 6), (5, 7), (6, 3), (6, 5), (6, 9), (6, 10), (6, 11), (6, 12), (7, 1), (7, 2), (7, 3), (7, 4), (8, 1), (8, 2), (8, 3), (8, 4), (8, 5), (8, 6), (8, 7), (8, 8), (9, 3), (9, 4), (9, 5), (9, 6), (9, 7), (10, 4), (10, 5), (10, 7), (10, 8), (11, 3), (11, 5), (11, 9), (11, 10), (11, 11), (11, 12), (12, 7), (12, 8), (13, 5), (17, 0), (18, 0), (19, 0), (20, 0), (21, 0), (22, 0), (23, 0), (24, 0), (25, 0), (26, 0), (27, 0), (30, 0), (31, 0), (34, 0), (35, 0), (38, 0), (39, 0)] m0 m ∧ ((-2147483648) ≤ v ∧ v ≤ 2147483647)) := by
  have hFm0 : zfr [(2, 2), (2, 3), (2, 4), (2, 10), (3, 5), (3, 6), (3, 7), (3, 8), (3, 9), (3, 10), (3, 11), (4, 1), (4, 2), (4, 3), (4, 4), (4, 5), (4, 6), (5, 6), (5, 7), (6, 3), (6, 5), (6, 9), (6, 10), (6, 11), (6, 12), (7, 1), (7, 2), (7, 3), (7, 4), (8, 1), (8, 2), (8, 3), (8, 4), (8, 5), (8, 6), (8, 7), (8, 8), (9, 3), (9, 4), (9, 5), (9, 6), (9, 7), (10, 4), (10, 5), (10, 7), (10, 8), (11, 3), (11, 5), (11, 9), (11, 10), (11, 11), (11, 12), (12, 7), (12, 8), (13, 5), (17, 0), (18, 0), (19, 0), (20, 0), (21, 0), (22, 0), (23, 0), (24, 0), (25, 0), (26, 0), (27, 0), (30, 0), (31, 0), (34, 0), (35, 0), (38, 0), (39, 0)] m0 m0 := zfr_rf _ _
  refine zw_eq (zr_42_0 n a0 a1 m0) ?_
  refine zw_ite (fun h1 => ?_) (fun h1 => ?_)
  · exact zw_some ⟨hIm0, hFm0, ⟨by omega, by omega⟩⟩
  · have r2 : 0 ≤ (m0 a0 1) ∧ (m0 a0 1) ≤ 700 := zi_rd hIm0 hc0 zb_2_1
    refine zw_ite (fun h3 => ?_) (fun h3 => ?_)
    · refine zw_bd (zw_mono (zk_12 n hIm0 zq_5 ⟨by omega, by omega⟩) (fun v5 m4 hqm4 => ?_))
      obtain ⟨hIm4, hfm4, hvm4⟩ := hqm4
      have hFm4 := zfr_tr hFm0 hfm4 rfl
      generalize hmm6 : zu_up m4 a0 1 0 = m6
      have hIm6 := zi_up hmm6 hIm4 hc0 zb_2_1 (by omega) (by omega)
      have hFm6 := zfr_up hmm6 hFm4 hc0 rfl
      have r7 : (-2147483648) ≤ (m6 5 9) ∧ (m6 5 9) ≤ 2147483647 := zi_rd hIm6 zq_5 zb_3_9
      generalize hmm8 : zu_up m6 a0 2 (m6 5 9) = m8
      have hIm8 := zi_up hmm8 hIm6 hc0 zb_2_2 (by omega) (by omega)
      have hFm8 := zfr_up hmm8 hFm6 hc0 rfl
      have r9 : (-2147483648) ≤ (m8 5 10) ∧ (m8 5 10) ≤ 2147483647 := zi_rd hIm8 zq_5 zb_3_10
      generalize hmm10 : zu_up m8 a0 3 (m8 5 10) = m10
      have hIm10 := zi_up hmm10 hIm8 hc0 zb_2_3 (by omega) (by omega)
      have hFm10 := zfr_up hmm10 hFm8 hc0 rfl
      have r11 : (-2147483648) ≤ (m10 a0 2) ∧ (m10 a0 2) ≤ 2147483647 := zi_rd hIm10 hc0 zb_2_2
      have e12 : (m10 a0 2) = (m6 5 9) := (Eq.trans (zs_ne hmm10 (Or.inr (by decide))) (zs_eq hmm8))
      refine zw_ite (fun h13 => ?_) (fun h13 => ?_)
      · refine zw_bd (zw_mono (zk_19 n hIm10 hc0) (fun v15 m14 hqm14 => ?_))
        obtain ⟨hIm14, hfm14, hvm14⟩ := hqm14
        have hFm14 := zfr_tr hFm10 hfm14 rfl
        exact zw_some ⟨hIm14, hFm14, ⟨by omega, by omega⟩⟩
      · exact zw_some ⟨hIm10, hFm10, ⟨by omega, by omega⟩⟩
    · exact zw_some ⟨hIm0, hFm0, ⟨by omega, by omega⟩⟩
set_option maxHeartbeats 4000000 in
theorem zk_61 (n : Nat) {a0 a1 a2 a3 a4 a5 : Int} {m0 : zu_m} (hIm0 : zi_I m0) (hc0 : zcls a0 = 2) (ha1 : (-2147483648) ≤ a1 ∧ a1 ≤ 2147483647) (ha2 : (-2147483648) ≤ a2 ∧ a2 ≤ 2147483647) (ha3 : (-2147483648) ≤ a3 ∧ a3 ≤ 2147483647) (ha4 : (-2147483648) ≤ a4 ∧ a4 ≤ 2147483647) (ha5 : (-2147483648) ≤ a5 ∧ a5 ≤ 2147483647)    : zw (zu_call (zt_T n) 61 [(5, a0), (0, a1), (0, a2), (0, a3), (0, a4), (0, a5)] m0) (fun v m => zi_I m ∧ zfr [(7, 1), (7, 2), (7, 3), (7, 4), (8, 1), (8, 2), (8, 3), (8, 4), (8, 5), (8, 6), (8, 7), (8, 8), (11, 3), (11, 5), (11, 9), (11, 10), (11, 11), (11, 12), (14, 7), (14, 14), (14, 15), (14, 16), (24, 0), (27, 0), (38, 0), (39, 0), (51, 0), (52, 0), (53, 0), (54, 0), (55, 0), (56, 0), (57, 0), (58, 0)] m0 m ∧ ((-2147483648) ≤ v ∧ v ≤ 2147483647)) := by
  have hFm0 : zfr [(7, 1), (7, 2), (7, 3), (7, 4), (8, 1), (8, 2), (8, 3), (8, 4), (8, 5), (8, 6), (8, 7), (8, 8), (11, 3), (11, 5), (11, 9), (11, 10), (11, 11), (11, 12), (14, 7), (14, 14), (14, 15), (14, 16), (24, 0), (27, 0), (38, 0), (39, 0), (51, 0), (52, 0), (53, 0), (54, 0), (55, 0), (56, 0), (57, 0), (58, 0)] m0 m0 := zfr_rf _ _
  refine zw_eq (zr_61_0 n a0 a1 a2 a3 a4 a5 m0) ?_
  refine zw_ite (fun h1 => ?_) (fun h1 => ?_)
  · exact zw_some ⟨hIm0, hFm0, ⟨by omega, by omega⟩⟩
  · refine zw_ite (fun h2 => ?_) (fun h2 => ?_)
    · exact zw_some ⟨hIm0, hFm0, ⟨by omega, by omega⟩⟩
    · refine zw_bd (zw_eq (zr_51_0 n a2 m0) ?_)
      refine zw_ite (fun h3 => ?_) (fun h3 => ?_)
      · refine zw_b (by omega) ?_
        refine zw_some ?_
        refine zw_ite (fun h4 => ?_) (fun h4 => ?_)
        · exact zw_some ⟨hIm0, hFm0, ⟨by omega, by omega⟩⟩
        · exfalso; omega
      · refine zw_ite (fun h5 => ?_) (fun h5 => ?_)
        · refine zw_b (by omega) ?_
          refine zw_some ?_
          refine zw_ite (fun h6 => ?_) (fun h6 => ?_)
          · exact zw_some ⟨hIm0, hFm0, ⟨by omega, by omega⟩⟩
          · exfalso; omega
        · refine zw_b (by omega) ?_
          refine zw_some ?_
          refine zw_ite (fun h7 => ?_) (fun h7 => ?_)
          · exfalso; omega
          · refine zw_bd (zw_eq (zr_52_0 n a3 m0) ?_)
            refine zw_ite (fun h8 => ?_) (fun h8 => ?_)
            · refine zw_b (by omega) ?_
              refine zw_some ?_
              refine zw_ite (fun h9 => ?_) (fun h9 => ?_)
              · exact zw_some ⟨hIm0, hFm0, ⟨by omega, by omega⟩⟩
              · exfalso; omega
            · refine zw_ite (fun h10 => ?_) (fun h10 => ?_)
              · refine zw_b (by omega) ?_
                refine zw_some ?_
                refine zw_ite (fun h11 => ?_) (fun h11 => ?_)
                · exact zw_some ⟨hIm0, hFm0, ⟨by omega, by omega⟩⟩
                · exfalso; omega
              · refine zw_b (by omega) ?_
                refine zw_some ?_
                refine zw_ite (fun h12 => ?_) (fun h12 => ?_)
                · exfalso; omega
                · refine zw_ite (fun h13 => ?_) (fun h13 => ?_)
                  · exact zw_some ⟨hIm0, hFm0, ⟨by omega, by omega⟩⟩
                  · refine zw_ite (fun h14 => ?_) (fun h14 => ?_)
                    · exact zw_some ⟨hIm0, hFm0, ⟨by omega, by omega⟩⟩
                    · refine zw_ite (fun h15 => ?_) (fun h15 => ?_)
                      · exact zw_some ⟨hIm0, hFm0, ⟨by omega, by omega⟩⟩
                      · refine zw_ite (fun h16 => ?_) (fun h16 => ?_)
                        · exact zw_some ⟨hIm0, hFm0, ⟨by omega, by omega⟩⟩
                        · have r17 : 0 ≤ (m0 89 4) ∧ (m0 89 4) ≤ 4 := zi_rd hIm0 zq_89 zb_11_4
                          refine zw_ite (fun h18 => ?_) (fun h18 => ?_)
                          · have r19 : 1 ≤ (m0 50 2) ∧ (m0 50 2) ≤ 48 := zi_rd hIm0 zq_50 zb_4_2
                            refine zw_ite (fun h20 => ?_) (fun h20 => ?_)
                            · refine zw_ite (fun h21 => ?_) (fun h21 => ?_)
                              · refine zw_bd (zw_mono (zk_285 n hIm0 zq_153 ⟨by omega, by omega⟩ ⟨by omega, by omega⟩ ⟨by omega, by omega⟩ ⟨by omega, by omega⟩) (fun v23 m22 hqm22 => ?_))
                                obtain ⟨hIm22, hfm22, hvm22⟩ := hqm22
                                have hFm22 := zfr_tr hFm0 hfm22 rfl
                                refine zw_ite (fun h24 => ?_) (fun h24 => ?_)
                                · have w25 := zu_w32_id (z := a5 - 1) (by omega) (by omega)
                                  have b26 : 0 ≤ (zu_w32 (a5 - 1)) ∧ (zu_w32 (a5 - 1)) < 2 := by omega
                                  refine zw_if b26 ?_
                                  have r27 : 0 ≤ (m22 161 (zu_w32 (a5 - 1))) ∧ (m22 161 (zu_w32 (a5 - 1))) ≤ 47 := zi_rd hIm22 zq_161 (zb_58 _)
                                  exact zw_some ⟨hIm22, hFm22, ⟨by omega, by omega⟩⟩
                                · have r28 : (-2147483648) ≤ (m22 153 15) ∧ (m22 153 15) ≤ 2147483647 := zi_rd hIm22 zq_153 zb_14_15
                                  exact zw_some ⟨hIm22, hFm22, ⟨by omega, by omega⟩⟩
                              · exact zw_some ⟨hIm0, hFm0, ⟨by omega, by omega⟩⟩
                            · exact zw_some ⟨hIm0, hFm0, ⟨by omega, by omega⟩⟩
                          · exact zw_some ⟨hIm0, hFm0, ⟨by omega, by omega⟩⟩
set_option maxHeartbeats 4000000 in
theorem zk_64 (n : Nat) {a0 a1 : Int} {m0 : zu_m} (hIm0 : zi_I m0) (hc0 : zcls a0 = 2) (ha1 : (-2147483648) ≤ a1 ∧ a1 ≤ 2147483647)    : zw (zu_call (zt_T n) 64 [(5, a0), (0, a1)] m0) (fun v m => zi_I m ∧ zfr [(7, 1), (7, 2), (7, 3), (7, 4), (8, 1), (8, 2), (8, 3), (8, 4), (8, 5), (8, 6), (8, 7), (8, 8), (11, 3), (11, 5), (11, 9), (11, 10), (11, 11), (11, 12), (24, 0), (27, 0), (38, 0), (39, 0)] m0 m ∧ ((-1) ≤ v ∧ v ≤ 2)) := by
  have hFm0 : zfr [(7, 1), (7, 2), (7, 3), (7, 4), (8, 1), (8, 2), (8, 3), (8, 4), (8, 5), (8, 6), (8, 7), (8, 8), (11, 3), (11, 5), (11, 9), (11, 10), (11, 11), (11, 12), (24, 0), (27, 0), (38, 0), (39, 0)] m0 m0 := zfr_rf _ _
  refine zw_eq (zr_64_0 n a0 a1 m0) ?_
  refine zw_bd (zw_eq (zr_53_0 n a1 m0) ?_)
  refine zw_ite (fun h1 => ?_) (fun h1 => ?_)
  · refine zw_b (by omega) ?_
    refine zw_some ?_
    refine zw_ite (fun h2 => ?_) (fun h2 => ?_)
    · exact zw_some ⟨hIm0, hFm0, ⟨by omega, by omega⟩⟩
    · exfalso; omega
  · refine zw_ite (fun h3 => ?_) (fun h3 => ?_)
    · refine zw_b (by omega) ?_
      refine zw_some ?_
      refine zw_ite (fun h4 => ?_) (fun h4 => ?_)
      · exact zw_some ⟨hIm0, hFm0, ⟨by omega, by omega⟩⟩
      · exfalso; omega
    · refine zw_b (by omega) ?_
      refine zw_some ?_
      refine zw_ite (fun h5 => ?_) (fun h5 => ?_)
      · exfalso; omega
      · refine zw_bd (zw_mono (zk_300 n hIm0 zq_153 ⟨by omega, by omega⟩) (fun v7 m6 hqm6 => ?_))
        obtain ⟨hIm6, hfm6, hvm6⟩ := hqm6
        have hFm6 := zfr_tr hFm0 hfm6 rfl
        exact zw_some ⟨hIm6, hFm6, ⟨by omega, by omega⟩⟩
set_option maxHeartbeats 4000000 in
theorem zk_75 (n : Nat) {a0 a1 : Int} {m0 : zu_m} (hIm0 : zi_I m0) (hc0 : zcls a0 = 2) (ha1 : (-2147483648) ≤ a1 ∧ a1 ≤ 2147483647)    : zw (zu_call (zt_T n) 75 [(5, a0), (0, a1)] m0) (fun v m => zi_I m ∧ zfr [(7, 1), (7, 2), (7, 3), (7, 4), (8, 1), (8, 2), (8, 3), (8, 4), (8, 5), (8, 6), (8, 7), (8, 8), (11, 3), (11, 5), (11, 9), (11, 10), (11, 11), (11, 12), (24, 0), (27, 0), (38, 0), (39, 0), (46, 0)] m0 m ∧ ((-2147483648) ≤ v ∧ v ≤ 2147483647)) := by
  have hFm0 : zfr [(7, 1), (7, 2), (7, 3), (7, 4), (8, 1), (8, 2), (8, 3), (8, 4), (8, 5), (8, 6), (8, 7), (8, 8), (11, 3), (11, 5), (11, 9), (11, 10), (11, 11), (11, 12), (24, 0), (27, 0), (38, 0), (39, 0), (46, 0)] m0 m0 := zfr_rf _ _
  refine zw_eq (zr_75_0 n a0 a1 m0) ?_
  refine zw_bd (zw_eq (zr_211_0 n 89 a1 m0) ?_)
  refine zw_ite (fun h1 => ?_) (fun h1 => ?_)
  · refine zw_b (by omega) ?_
    refine zw_some ?_
    refine zw_ite (fun h2 => ?_) (fun h2 => ?_)
    · exact zw_some ⟨hIm0, hFm0, ⟨by omega, by omega⟩⟩
    · exfalso; omega
  · have r3 : 0 ≤ (m0 89 4) ∧ (m0 89 4) ≤ 4 := zi_rd hIm0 zq_89 zb_11_4
    refine zw_ite (fun h4 => ?_) (fun h4 => ?_)
    · refine zw_b (by omega) ?_
      refine zw_some ?_
      refine zw_ite (fun h5 => ?_) (fun h5 => ?_)
      · exact zw_some ⟨hIm0, hFm0, ⟨by omega, by omega⟩⟩
      · exfalso; omega
    · refine zw_b (by omega) ?_
      refine zw_some ?_
      refine zw_ite (fun h6 => ?_) (fun h6 => ?_)
      · exfalso; omega
      · refine zw_bd (zw_mono (zk_301 n hIm0 zq_153 ⟨by omega, by omega⟩) (fun v8 m7 hqm7 => ?_))
        obtain ⟨hIm7, hfm7, hvm7⟩ := hqm7
        have hFm7 := zfr_tr hFm0 hfm7 rfl
        exact zw_some ⟨hIm7, hFm7, ⟨by omega, by omega⟩⟩
set_option maxHeartbeats 4000000 in
theorem zk_106 (n : Nat) {a0 a1 : Int} {m0 : zu_m} (hIm0 : zi_I m0) (hc0 : zcls a0 = 15) (ha1 : (-2147483648) ≤ a1 ∧ a1 ≤ 2147483647)    : zw (zu_call (zt_T n) 106 [(40, a0), (0, a1)] m0) (fun v m => zi_I m ∧ zfr [(15, 2), (15, 3), (15, 5), (15, 6), (15, 7), (15, 8), (15, 9), (15, 10), (15, 11), (15, 12), (15, 13), (15, 14), (15, 15), (15, 16), (15, 17), (15, 18), (15, 19), (15, 20), (15, 21), (15, 22), (15, 23), (15, 24), (15, 43), (15, 46), (15, 47), (15, 48), (15, 49), (15, 50), (15, 51), (15, 54), (15, 63), (15, 64), (15, 65), (15, 66), (15, 67), (15, 68), (15, 69), (15, 70), (15, 78), (15, 79), (15, 82), (15, 84), (63, 0), (64, 0), (65, 0), (66, 0), (67, 0), (68, 0), (69, 0), (70, 0), (71, 0), (72, 0), (73, 0), (74, 0), (75, 0), (76, 0), (77, 0), (78, 0), (79, 0), (80, 0), (81, 0), (82, 0), (83, 0), (84, 0), (85, 0), (86, 0), (87, 0), (88, 0), (89, 0), (90, 0), (91, 0), (92, 0)] m0 m ∧ ((-2147483648) ≤ v ∧ v ≤ 2147483647) ∧ (0 ≤ m a0 2 ∧ m a0 2 ≤ 0)) := by
  sorry
set_option maxHeartbeats 4000000 in
theorem zl_140 (n : Nat) {a0 a1 : Int} {m0 : zu_m} (hc0 : zcls a0 = 15)  : ∀ k : Nat, (∀ (x2 x3 : Int) (mh : zu_m), zi_I mh → zfr [(15, 54), (15, 64), (83, 0), (84, 0), (85, 0), (87, 0), (89, 0), (90, 0), (91, 0), (92, 0)] m0 mh → (0 ≤ a1 ∧ a1 ≤ 1) → ((-2147483648) ≤ x2 ∧ x2 ≤ 2147483647) → (0 ≤ x3 ∧ x3 ≤ 4) → (4 - x3) * 1 + 43 < (k : Int) → zw (zu_ex (zt_T n) 140 9 [(40, a0), (0, a1), (0, x2), (0, x3), (2, 0)] [] mh) (fun v m => zi_I m ∧ zfr [(15, 54), (15, 64), (83, 0), (84, 0), (85, 0), (87, 0), (89, 0), (90, 0), (91, 0), (92, 0)] m0 m ∧ True)) ∧ (∀ (x2 x3 : Int) (mh : zu_m), zi_I mh → zfr [(15, 54), (15, 64), (83, 0), (84, 0), (85, 0), (87, 0), (89, 0), (90, 0), (91, 0), (92, 0)] m0 mh → (0 ≤ a1 ∧ a1 ≤ 1) → ((-2147483648) ≤ x2 ∧ x2 ≤ 2147483647) → (0 ≤ x3 ∧ x3 ≤ 4) → (4 - x3) * 1 + 38 < (k : Int) → zw (zu_ex (zt_T n) 140 53 [(40, a0), (0, a1), (0, x2), (0, x3), (2, 0)] [] mh) (fun v m => zi_I m ∧ zfr [(15, 54), (15, 64), (83, 0), (84, 0), (85, 0), (87, 0), (89, 0), (90, 0), (91, 0), (92, 0)] m0 m ∧ True)) ∧ (∀ (x2 x3 x4 : Int) (mh : zu_m), zi_I mh → zfr [(15, 54), (15, 64), (83, 0), (84, 0), (85, 0), (87, 0), (89, 0), (90, 0), (91, 0), (92, 0)] m0 mh → (0 ≤ a1 ∧ a1 ≤ 1) → (1 ≤ x2 ∧ x2 ≤ 2147483647) → ((-99) ≤ x3 ∧ x3 ≤ 99) → (0 ≤ x4 ∧ x4 ≤ 18) → (0 ≤ mh a0 65 ∧ mh a0 65 ≤ 0) → (18 - x4) * 1 + 19 < (k : Int) → zw (zu_ex (zt_T n) 140 138 [(40, a0), (0, a1), (0, x2), (0, x3), (0, x4)] [] mh) (fun v m => zi_I m ∧ zfr [(15, 54), (15, 64), (83, 0), (84, 0), (85, 0), (87, 0), (89, 0), (90, 0), (91, 0), (92, 0)] m0 m ∧ True)) ∧ (∀ (x2 x3 : Int) (mh : zu_m), zi_I mh → zfr [(15, 54), (15, 64), (83, 0), (84, 0), (85, 0), (87, 0), (89, 0), (90, 0), (91, 0), (92, 0)] m0 mh → (0 ≤ a1 ∧ a1 ≤ 1) → ((-1) ≤ x2 ∧ x2 ≤ 99999) → (0 ≤ x3 ∧ x3 ≤ 18) → (0 ≤ mh a0 66 ∧ mh a0 66 ≤ 0) → (18 - x3) * 1 + 0 < (k : Int) → zw (zu_ex (zt_T n) 140 226 [(40, a0), (0, a1), (0, x2), (0, x3), (2, 0)] [] mh) (fun v m => zi_I m ∧ zfr [(15, 54), (15, 64), (83, 0), (84, 0), (85, 0), (87, 0), (89, 0), (90, 0), (91, 0), (92, 0)] m0 m ∧ True)) := by
  intro k
  induction k with
  | zero => exact ⟨fun x2 x3 mh hImh hFmh hba1 hbx2 hbx3 hM => by exfalso; omega, fun x2 x3 mh hImh hFmh hba1 hbx2 hbx3 hM => by exfalso; omega, fun x2 x3 x4 mh hImh hFmh hba1 hbx2 hbx3 hbx4 hg4 hM => by exfalso; omega, fun x2 x3 mh hImh hFmh hba1 hbx2 hbx3 hg3 hM => by exfalso; omega⟩
  | succ k ih =>
    refine ⟨?_, ?_, ?_, ?_⟩
    · intro x2 x3 mh hImh hFmh hba1 hbx2 hbx3 hM
      refine zw_eq (zr_140_9 n a0 a1 x2 x3 mh) ?_
      have r1 : 0 ≤ (mh a0 15) ∧ (mh a0 15) ≤ 4 := zi_rd hImh hc0 zb_15_15
      refine zw_ite (fun h2 => ?_) (fun h2 => ?_)
      · have hM : (4 - 0) * 1 + 38 < (k : Int) := by omega
        exact ih.2.1 x2 0 mh hImh hFmh ⟨by omega, by omega⟩ ⟨by omega, by omega⟩ ⟨by omega, by omega⟩ hM
      · have w3 := zu_w32_id (z := 4 * a1) (by omega) (by omega)
        have w4 := zu_w32_id (z := (zu_w32 (4 * a1)) + x3) (by omega) (by omega)
        have b5 : 0 ≤ (zu_w32 ((zu_w32 (4 * a1)) + x3)) ∧ (zu_w32 ((zu_w32 (4 * a1)) + x3)) < 8 := by omega
        refine zw_if b5 ?_
        have r6 : (-2147483648) ≤ (mh 218 (zu_w32 ((zu_w32 (4 * a1)) + x3))) ∧ (mh 218 (zu_w32 ((zu_w32 (4 * a1)) + x3))) ≤ 2147483647 := zi_rd hImh zq_218 (zb_88 _)
        refine zw_ite (fun h7 => ?_) (fun h7 => ?_)
        · have w8 := zu_w32_id (z := x3 + 1) (by omega) (by omega)
          have hM : (4 - (zu_w32 (x3 + 1))) * 1 + 43 < (k : Int) := by omega
          exact ih.1 x2 (zu_w32 (x3 + 1)) mh hImh hFmh ⟨by omega, by omega⟩ ⟨by omega, by omega⟩ ⟨by omega, by omega⟩ hM
        · have r9 : (-2147483648) ≤ (mh a0 69) ∧ (mh a0 69) ≤ 2147483647 := zi_rd hImh hc0 zb_15_69
          refine zw_ite (fun h10 => ?_) (fun h10 => ?_)
          · have w11 := zu_w32_id (z := x3 + 1) (by omega) (by omega)
            have hM : (4 - (zu_w32 (x3 + 1))) * 1 + 43 < (k : Int) := by omega
            exact ih.1 x2 (zu_w32 (x3 + 1)) mh hImh hFmh ⟨by omega, by omega⟩ ⟨by omega, by omega⟩ ⟨by omega, by omega⟩ hM
          · refine zw_bd (zw_mono (zk_137 n hImh hc0 ⟨by omega, by omega⟩ ⟨by omega, by omega⟩) (fun v13 m12 hqm12 => ?_))
            obtain ⟨hIm12, hfm12, hvm12⟩ := hqm12
            have hFm12 := zfr_tr hFmh hfm12 rfl
            have w14 := zu_w32_id (z := x3 + 1) (by omega) (by omega)
            have hM : (4 - (zu_w32 (x3 + 1))) * 1 + 43 < (k : Int) := by omega
            exact ih.1 x2 (zu_w32 (x3 + 1)) m12 hIm12 hFm12 ⟨by omega, by omega⟩ ⟨by omega, by omega⟩ ⟨by omega, by omega⟩ hM
    · intro x2 x3 mh hImh hFmh hba1 hbx2 hbx3 hM
      refine zw_eq (zr_140_53 n a0 a1 x2 x3 mh) ?_
      have r15 : 0 ≤ (mh a0 15) ∧ (mh a0 15) ≤ 4 := zi_rd hImh hc0 zb_15_15
      refine zw_ite (fun h16 => ?_) (fun h16 => ?_)
      · have r17 : 0 ≤ (mh a0 65) ∧ (mh a0 65) ≤ 1 := zi_rd hImh hc0 zb_15_65
        refine zw_ite (fun h18 => ?_) (fun h18 => ?_)
        · have b19 : 0 ≤ (3 : Int) ∧ (3 : Int) < 10 := by omega
          refine zw_if b19 ?_
          have r20 : (-1) ≤ (mh 194 3) ∧ (mh 194 3) ≤ 99999 := zi_rd hImh zq_194 (zb_64 _)
          refine zw_ite (fun h21 => ?_) (fun h21 => ?_)
          · have b22 : 0 ≤ a1 ∧ a1 < 2 := by omega
            refine zw_if b22 ?_
            have r23 : (-2147483648) ≤ (mh 221 a1) ∧ (mh 221 a1) ≤ 2147483647 := zi_rd hImh zq_221 (zb_91 _)
            have w24 := zu_w32_rg ((mh 221 a1) + 1)
            have b25 : 0 ≤ a1 ∧ a1 < 2 := by omega
            refine zw_if b25 ?_
            generalize hmm26 : zu_up mh 221 a1 (zu_w32 ((mh 221 a1) + 1)) = m26
            have hIm26 := zi_up hmm26 hImh zq_221 (zb_91 _) (by omega) (by omega)
            have hFm26 := zfr_up hmm26 hFmh zq_221 rfl
            exact zw_some ⟨hIm26, hFm26, trivial⟩
          · have r27 : 0 ≤ (mh a0 66) ∧ (mh a0 66) ≤ 1 := zi_rd hImh hc0 zb_15_66
            refine zw_ite (fun h28 => ?_) (fun h28 => ?_)
            · have b29 : 0 ≤ a1 ∧ a1 < 2 := by omega
              refine zw_if b29 ?_
              have r30 : (-2147483648) ≤ (mh 221 a1) ∧ (mh 221 a1) ≤ 2147483647 := zi_rd hImh zq_221 (zb_91 _)
              have w31 := zu_w32_rg ((mh 221 a1) + 1)
              have b32 : 0 ≤ a1 ∧ a1 < 2 := by omega
              refine zw_if b32 ?_
              generalize hmm33 : zu_up mh 221 a1 (zu_w32 ((mh 221 a1) + 1)) = m33
              have hIm33 := zi_up hmm33 hImh zq_221 (zb_91 _) (by omega) (by omega)
              have hFm33 := zfr_up hmm33 hFmh zq_221 rfl
              exact zw_some ⟨hIm33, hFm33, trivial⟩
            · have hM : (18 - 0) * 1 + 0 < (k : Int) := by omega
              exact ih.2.2.2 x2 0 mh hImh hFmh ⟨by omega, by omega⟩ ⟨by omega, by omega⟩ ⟨by omega, by omega⟩ ⟨by omega, by omega⟩ hM
        · have b34 : 0 ≤ (2 : Int) ∧ (2 : Int) < 10 := by omega
          refine zw_if b34 ?_
          have r35 : (-1) ≤ (mh 194 2) ∧ (mh 194 2) ≤ 99999 := zi_rd hImh zq_194 (zb_64 _)
          refine zw_ite (fun h36 => ?_) (fun h36 => ?_)
          · have b37 : 0 ≤ (3 : Int) ∧ (3 : Int) < 10 := by omega
            refine zw_if b37 ?_
            have r38 : (-1) ≤ (mh 194 3) ∧ (mh 194 3) ≤ 99999 := zi_rd hImh zq_194 (zb_64 _)
            refine zw_ite (fun h39 => ?_) (fun h39 => ?_)
            · have b40 : 0 ≤ a1 ∧ a1 < 2 := by omega
              refine zw_if b40 ?_
              have r41 : (-2147483648) ≤ (mh 221 a1) ∧ (mh 221 a1) ≤ 2147483647 := zi_rd hImh zq_221 (zb_91 _)
              have w42 := zu_w32_rg ((mh 221 a1) + 1)
              have b43 : 0 ≤ a1 ∧ a1 < 2 := by omega
              refine zw_if b43 ?_
              generalize hmm44 : zu_up mh 221 a1 (zu_w32 ((mh 221 a1) + 1)) = m44
              have hIm44 := zi_up hmm44 hImh zq_221 (zb_91 _) (by omega) (by omega)
              have hFm44 := zfr_up hmm44 hFmh zq_221 rfl
              exact zw_some ⟨hIm44, hFm44, trivial⟩
            · have r45 : 0 ≤ (mh a0 66) ∧ (mh a0 66) ≤ 1 := zi_rd hImh hc0 zb_15_66
              refine zw_ite (fun h46 => ?_) (fun h46 => ?_)
              · have b47 : 0 ≤ a1 ∧ a1 < 2 := by omega
                refine zw_if b47 ?_
                have r48 : (-2147483648) ≤ (mh 221 a1) ∧ (mh 221 a1) ≤ 2147483647 := zi_rd hImh zq_221 (zb_91 _)
                have w49 := zu_w32_rg ((mh 221 a1) + 1)
                have b50 : 0 ≤ a1 ∧ a1 < 2 := by omega
                refine zw_if b50 ?_
                generalize hmm51 : zu_up mh 221 a1 (zu_w32 ((mh 221 a1) + 1)) = m51
                have hIm51 := zi_up hmm51 hImh zq_221 (zb_91 _) (by omega) (by omega)
                have hFm51 := zfr_up hmm51 hFmh zq_221 rfl
                exact zw_some ⟨hIm51, hFm51, trivial⟩
              · have hM : (18 - 0) * 1 + 0 < (k : Int) := by omega
                exact ih.2.2.2 x2 0 mh hImh hFmh ⟨by omega, by omega⟩ ⟨by omega, by omega⟩ ⟨by omega, by omega⟩ ⟨by omega, by omega⟩ hM
          · refine zw_ite (fun h52 => ?_) (fun h52 => ?_)
            · have b53 : 0 ≤ (3 : Int) ∧ (3 : Int) < 10 := by omega
              refine zw_if b53 ?_
              have r54 : (-1) ≤ (mh 194 3) ∧ (mh 194 3) ≤ 99999 := zi_rd hImh zq_194 (zb_64 _)
              refine zw_ite (fun h55 => ?_) (fun h55 => ?_)
              · have b56 : 0 ≤ a1 ∧ a1 < 2 := by omega
                refine zw_if b56 ?_
                have r57 : (-2147483648) ≤ (mh 221 a1) ∧ (mh 221 a1) ≤ 2147483647 := zi_rd hImh zq_221 (zb_91 _)
                have w58 := zu_w32_rg ((mh 221 a1) + 1)
                have b59 : 0 ≤ a1 ∧ a1 < 2 := by omega
                refine zw_if b59 ?_
                generalize hmm60 : zu_up mh 221 a1 (zu_w32 ((mh 221 a1) + 1)) = m60
                have hIm60 := zi_up hmm60 hImh zq_221 (zb_91 _) (by omega) (by omega)
                have hFm60 := zfr_up hmm60 hFmh zq_221 rfl
                exact zw_some ⟨hIm60, hFm60, trivial⟩
              · have r61 : 0 ≤ (mh a0 66) ∧ (mh a0 66) ≤ 1 := zi_rd hImh hc0 zb_15_66
                refine zw_ite (fun h62 => ?_) (fun h62 => ?_)
                · have b63 : 0 ≤ a1 ∧ a1 < 2 := by omega
                  refine zw_if b63 ?_
                  have r64 : (-2147483648) ≤ (mh 221 a1) ∧ (mh 221 a1) ≤ 2147483647 := zi_rd hImh zq_221 (zb_91 _)
                  have w65 := zu_w32_rg ((mh 221 a1) + 1)
                  have b66 : 0 ≤ a1 ∧ a1 < 2 := by omega
                  refine zw_if b66 ?_
                  generalize hmm67 : zu_up mh 221 a1 (zu_w32 ((mh 221 a1) + 1)) = m67
                  have hIm67 := zi_up hmm67 hImh zq_221 (zb_91 _) (by omega) (by omega)
                  have hFm67 := zfr_up hmm67 hFmh zq_221 rfl
                  exact zw_some ⟨hIm67, hFm67, trivial⟩
                · have hM : (18 - 0) * 1 + 0 < (k : Int) := by omega
                  exact ih.2.2.2 x2 0 mh hImh hFmh ⟨by omega, by omega⟩ ⟨by omega, by omega⟩ ⟨by omega, by omega⟩ ⟨by omega, by omega⟩ hM
            · have b68 : 0 ≤ (2 : Int) ∧ (2 : Int) < 10 := by omega
              refine zw_if b68 ?_
              refine zw_nif (by omega) ?_
              have d69 := ztmod_bd (x := x2) (y := (mh 194 2)) (by omega) (by omega)
              refine zw_ite (fun h70 => ?_) (fun h70 => ?_)
              · have b71 : 0 ≤ (3 : Int) ∧ (3 : Int) < 10 := by omega
                refine zw_if b71 ?_
                have r72 : (-1) ≤ (mh 194 3) ∧ (mh 194 3) ≤ 99999 := zi_rd hImh zq_194 (zb_64 _)
                refine zw_ite (fun h73 => ?_) (fun h73 => ?_)
                · have b74 : 0 ≤ a1 ∧ a1 < 2 := by omega
                  refine zw_if b74 ?_
                  have r75 : (-2147483648) ≤ (mh 221 a1) ∧ (mh 221 a1) ≤ 2147483647 := zi_rd hImh zq_221 (zb_91 _)
                  have w76 := zu_w32_rg ((mh 221 a1) + 1)
                  have b77 : 0 ≤ a1 ∧ a1 < 2 := by omega
                  refine zw_if b77 ?_
                  generalize hmm78 : zu_up mh 221 a1 (zu_w32 ((mh 221 a1) + 1)) = m78
                  have hIm78 := zi_up hmm78 hImh zq_221 (zb_91 _) (by omega) (by omega)
                  have hFm78 := zfr_up hmm78 hFmh zq_221 rfl
                  exact zw_some ⟨hIm78, hFm78, trivial⟩
                · have r79 : 0 ≤ (mh a0 66) ∧ (mh a0 66) ≤ 1 := zi_rd hImh hc0 zb_15_66
                  refine zw_ite (fun h80 => ?_) (fun h80 => ?_)
                  · have b81 : 0 ≤ a1 ∧ a1 < 2 := by omega
                    refine zw_if b81 ?_
                    have r82 : (-2147483648) ≤ (mh 221 a1) ∧ (mh 221 a1) ≤ 2147483647 := zi_rd hImh zq_221 (zb_91 _)
                    have w83 := zu_w32_rg ((mh 221 a1) + 1)
                    have b84 : 0 ≤ a1 ∧ a1 < 2 := by omega
                    refine zw_if b84 ?_
                    generalize hmm85 : zu_up mh 221 a1 (zu_w32 ((mh 221 a1) + 1)) = m85
                    have hIm85 := zi_up hmm85 hImh zq_221 (zb_91 _) (by omega) (by omega)
                    have hFm85 := zfr_up hmm85 hFmh zq_221 rfl
                    exact zw_some ⟨hIm85, hFm85, trivial⟩
                  · have hM : (18 - 0) * 1 + 0 < (k : Int) := by omega
                    exact ih.2.2.2 x2 0 mh hImh hFmh ⟨by omega, by omega⟩ ⟨by omega, by omega⟩ ⟨by omega, by omega⟩ ⟨by omega, by omega⟩ hM
              · refine zw_bd (zw_eq (zr_36_0 n a0 mh) ?_)
                have r86 : 1 ≤ (mh a0 12) ∧ (mh a0 12) ≤ 8 := zi_rd hImh hc0 zb_15_12
                have r87 : 1 ≤ (mh a0 13) ∧ (mh a0 13) ≤ 6 := zi_rd hImh hc0 zb_15_13
                have p88 := zmul_bd (x := (mh a0 12)) (y := (mh a0 13)) (a := 1) (b := 1) (A := 8) (B := 6) (by omega) (by omega) (by omega) (by omega) (by omega) (by omega)
                have w89 := zu_w32_id (z := (mh a0 12) * (mh a0 13)) (by omega) (by omega)
                refine zw_some ?_
                refine zw_bd (zw_mono (zk_136 n hImh hc0 ⟨by omega, by omega⟩) (fun v91 m90 hqm90 => ?_))
                obtain ⟨hIm90, hfm90, hvm90⟩ := hqm90
                have hFm90 := zfr_tr hFmh hfm90 rfl
                have r92 : 0 ≤ (m90 a0 65) ∧ (m90 a0 65) ≤ 1 := zi_rd hIm90 hc0 zb_15_65
                have e93 : (m90 a0 65) = (mh a0 65) := (zfr_ap hfm90 hc0 rfl)
                have hM : (18 - 0) * 1 + 19 < (k : Int) := by omega
                exact ih.2.2.1 x2 v91 0 m90 hIm90 hFm90 ⟨by omega, by omega⟩ ⟨by omega, by omega⟩ ⟨by omega, by omega⟩ ⟨by omega, by omega⟩ ⟨by omega, by omega⟩ hM
      · have w94 := zu_w32_id (z := 4 * a1) (by omega) (by omega)
        have w95 := zu_w32_id (z := (zu_w32 (4 * a1)) + x3) (by omega) (by omega)
        have b96 : 0 ≤ (zu_w32 ((zu_w32 (4 * a1)) + x3)) ∧ (zu_w32 ((zu_w32 (4 * a1)) + x3)) < 8 := by omega
        refine zw_if b96 ?_
        have r97 : (-2147483648) ≤ (mh 218 (zu_w32 ((zu_w32 (4 * a1)) + x3))) ∧ (mh 218 (zu_w32 ((zu_w32 (4 * a1)) + x3))) ≤ 2147483647 := zi_rd hImh zq_218 (zb_88 _)
        refine zw_ite (fun h98 => ?_) (fun h98 => ?_)
        · have w99 := zu_w32_id (z := x3 + 1) (by omega) (by omega)
          have hM : (4 - (zu_w32 (x3 + 1))) * 1 + 38 < (k : Int) := by omega
          exact ih.2.1 x2 (zu_w32 (x3 + 1)) mh hImh hFmh ⟨by omega, by omega⟩ ⟨by omega, by omega⟩ ⟨by omega, by omega⟩ hM
        · have r100 : (-2147483648) ≤ (mh a0 69) ∧ (mh a0 69) ≤ 2147483647 := zi_rd hImh hc0 zb_15_69
          refine zw_ite (fun h101 => ?_) (fun h101 => ?_)
          · have w102 := zu_w32_id (z := x3 + 1) (by omega) (by omega)
            have hM : (4 - (zu_w32 (x3 + 1))) * 1 + 38 < (k : Int) := by omega
            exact ih.2.1 x2 (zu_w32 (x3 + 1)) mh hImh hFmh ⟨by omega, by omega⟩ ⟨by omega, by omega⟩ ⟨by omega, by omega⟩ hM
          · refine zw_bd (zw_mono (zk_139 n hImh hc0 ⟨by omega, by omega⟩ ⟨by omega, by omega⟩) (fun v104 m103 hqm103 => ?_))
            obtain ⟨hIm103, hfm103, hvm103⟩ := hqm103
            have hFm103 := zfr_tr hFmh hfm103 rfl
            have w105 := zu_w32_id (z := x3 + 1) (by omega) (by omega)
            have hM : (4 - (zu_w32 (x3 + 1))) * 1 + 38 < (k : Int) := by omega
            exact ih.2.1 x2 (zu_w32 (x3 + 1)) m103 hIm103 hFm103 ⟨by omega, by omega⟩ ⟨by omega, by omega⟩ ⟨by omega, by omega⟩ hM
    · intro x2 x3 x4 mh hImh hFmh hba1 hbx2 hbx3 hbx4 hg4 hM
      refine zw_eq (zr_140_138 n a0 a1 x2 x3 x4 mh) ?_
      have b106 : 0 ≤ a1 ∧ a1 < 2 := by omega
      refine zw_if b106 ?_
      have r107 : 0 ≤ (mh 216 a1) ∧ (mh 216 a1) ≤ 18 := zi_rdr (m := 2) (r0 := 0) (r1 := 1) hImh zq_216 (by omega) (by decide +kernel)
      refine zw_ite (fun h108 => ?_) (fun h108 => ?_)
      · have b109 : 0 ≤ a1 ∧ a1 < 2 := by omega
        refine zw_if b109 ?_
        refine zw_ite (fun h110 => ?_) (fun h110 => ?_)
        · have b111 : 0 ≤ (3 : Int) ∧ (3 : Int) < 10 := by omega
          refine zw_if b111 ?_
          have r112 : (-1) ≤ (mh 194 3) ∧ (mh 194 3) ≤ 99999 := zi_rd hImh zq_194 (zb_64 _)
          refine zw_ite (fun h113 => ?_) (fun h113 => ?_)
          · have b114 : 0 ≤ a1 ∧ a1 < 2 := by omega
            refine zw_if b114 ?_
            have r115 : (-2147483648) ≤ (mh 221 a1) ∧ (mh 221 a1) ≤ 2147483647 := zi_rd hImh zq_221 (zb_91 _)
            have w116 := zu_w32_rg ((mh 221 a1) + 1)
            have b117 : 0 ≤ a1 ∧ a1 < 2 := by omega
            refine zw_if b117 ?_
            generalize hmm118 : zu_up mh 221 a1 (zu_w32 ((mh 221 a1) + 1)) = m118
            have hIm118 := zi_up hmm118 hImh zq_221 (zb_91 _) (by omega) (by omega)
            have hFm118 := zfr_up hmm118 hFmh zq_221 rfl
            exact zw_some ⟨hIm118, hFm118, trivial⟩
          · have r119 : 0 ≤ (mh a0 66) ∧ (mh a0 66) ≤ 1 := zi_rd hImh hc0 zb_15_66
            refine zw_ite (fun h120 => ?_) (fun h120 => ?_)
            · have b121 : 0 ≤ a1 ∧ a1 < 2 := by omega
              refine zw_if b121 ?_
              have r122 : (-2147483648) ≤ (mh 221 a1) ∧ (mh 221 a1) ≤ 2147483647 := zi_rd hImh zq_221 (zb_91 _)
              have w123 := zu_w32_rg ((mh 221 a1) + 1)
              have b124 : 0 ≤ a1 ∧ a1 < 2 := by omega
              refine zw_if b124 ?_
              generalize hmm125 : zu_up mh 221 a1 (zu_w32 ((mh 221 a1) + 1)) = m125
              have hIm125 := zi_up hmm125 hImh zq_221 (zb_91 _) (by omega) (by omega)
              have hFm125 := zfr_up hmm125 hFmh zq_221 rfl
              exact zw_some ⟨hIm125, hFm125, trivial⟩
            · have hM : (18 - 0) * 1 + 0 < (k : Int) := by omega
              exact zw_le (zu_forget (zu_lr_same (zu_lr_same (zu_lr_same (zu_lr_same (zu_lr_drop zu_lr_nil)))))) (ih.2.2.2 x2 0 mh hImh hFmh ⟨by omega, by omega⟩ ⟨by omega, by omega⟩ ⟨by omega, by omega⟩ ⟨by omega, by omega⟩ hM)
        · have w126 := zu_w32_id (z := 18 * a1) (by omega) (by omega)
          have w127 := zu_w32_id (z := (zu_w32 (18 * a1)) + x4) (by omega) (by omega)
          have b128 : 0 ≤ (zu_w32 ((zu_w32 (18 * a1)) + x4)) ∧ (zu_w32 ((zu_w32 (18 * a1)) + x4)) < 36 := by omega
          refine zw_if b128 ?_
          generalize hmm129 : zu_up mh 215 (zu_w32 ((zu_w32 (18 * a1)) + x4)) (-2) = m129
          have hIm129 := zi_up hmm129 hImh zq_215 (zb_85 _) (by omega) (by omega)
          have hFm129 := zfr_up hmm129 hFmh zq_215 rfl
          have b130 : 0 ≤ (3 : Int) ∧ (3 : Int) < 10 := by omega
          refine zw_if b130 ?_
          have r131 : (-1) ≤ (m129 194 3) ∧ (m129 194 3) ≤ 99999 := zi_rd hIm129 zq_194 (zb_64 _)
          refine zw_ite (fun h132 => ?_) (fun h132 => ?_)
          · have b133 : 0 ≤ a1 ∧ a1 < 2 := by omega
            refine zw_if b133 ?_
            have r134 : (-2147483648) ≤ (m129 221 a1) ∧ (m129 221 a1) ≤ 2147483647 := zi_rd hIm129 zq_221 (zb_91 _)
            have w135 := zu_w32_rg ((m129 221 a1) + 1)
            have b136 : 0 ≤ a1 ∧ a1 < 2 := by omega
            refine zw_if b136 ?_
            generalize hmm137 : zu_up m129 221 a1 (zu_w32 ((m129 221 a1) + 1)) = m137
            have hIm137 := zi_up hmm137 hIm129 zq_221 (zb_91 _) (by omega) (by omega)
            have hFm137 := zfr_up hmm137 hFm129 zq_221 rfl
            exact zw_some ⟨hIm137, hFm137, trivial⟩
          · have r138 : 0 ≤ (m129 a0 66) ∧ (m129 a0 66) ≤ 1 := zi_rd hIm129 hc0 zb_15_66
            refine zw_ite (fun h139 => ?_) (fun h139 => ?_)
            · have b140 : 0 ≤ a1 ∧ a1 < 2 := by omega
              refine zw_if b140 ?_
              have r141 : (-2147483648) ≤ (m129 221 a1) ∧ (m129 221 a1) ≤ 2147483647 := zi_rd hIm129 zq_221 (zb_91 _)
              have w142 := zu_w32_rg ((m129 221 a1) + 1)
              have b143 : 0 ≤ a1 ∧ a1 < 2 := by omega
              refine zw_if b143 ?_
              generalize hmm144 : zu_up m129 221 a1 (zu_w32 ((m129 221 a1) + 1)) = m144
              have hIm144 := zi_up hmm144 hIm129 zq_221 (zb_91 _) (by omega) (by omega)
              have hFm144 := zfr_up hmm144 hFm129 zq_221 rfl
              exact zw_some ⟨hIm144, hFm144, trivial⟩
            · have hM : (18 - 0) * 1 + 0 < (k : Int) := by omega
              exact zw_le (zu_forget (zu_lr_same (zu_lr_same (zu_lr_same (zu_lr_same (zu_lr_drop zu_lr_nil)))))) (ih.2.2.2 x2 0 m129 hIm129 hFm129 ⟨by omega, by omega⟩ ⟨by omega, by omega⟩ ⟨by omega, by omega⟩ ⟨by omega, by omega⟩ hM)
      · have w145 := zu_w32_id (z := 18 * a1) (by omega) (by omega)
        have w146 := zu_w32_id (z := (zu_w32 (18 * a1)) + x4) (by omega) (by omega)
        have b147 : 0 ≤ (zu_w32 ((zu_w32 (18 * a1)) + x4)) ∧ (zu_w32 ((zu_w32 (18 * a1)) + x4)) < 36 := by omega
        refine zw_if b147 ?_
        have r148 : (-3) ≤ (mh 215 (zu_w32 ((zu_w32 (18 * a1)) + x4))) ∧ (mh 215 (zu_w32 ((zu_w32 (18 * a1)) + x4))) ≤ 3 := zi_rd hImh zq_215 (zb_85 _)
        refine zw_ite (fun h149 => ?_) (fun h149 => ?_)
        · have w150 := zu_w32_id (z := x4 + 1) (by omega) (by omega)
          have hM : (18 - (zu_w32 (x4 + 1))) * 1 + 19 < (k : Int) := by omega
          exact ih.2.2.1 x2 x3 (zu_w32 (x4 + 1)) mh hImh hFmh ⟨by omega, by omega⟩ ⟨by omega, by omega⟩ ⟨by omega, by omega⟩ ⟨by omega, by omega⟩ ⟨by omega, by omega⟩ hM
        · have b151 : 0 ≤ x4 ∧ x4 < 36 := by omega
          refine zw_if b151 ?_
          have r152 : 0 ≤ (mh 197 x4) ∧ (mh 197 x4) ≤ 47 := zi_rd hImh zq_197 (zb_67 _)
          refine zw_ite (fun h153 => ?_) (fun h153 => ?_)
          · have b154 : 0 ≤ a1 ∧ a1 < 2 := by omega
            refine zw_if b154 ?_
            refine zw_ite (fun h155 => ?_) (fun h155 => ?_)
            · have b156 : 0 ≤ (3 : Int) ∧ (3 : Int) < 10 := by omega
              refine zw_if b156 ?_
              have r157 : (-1) ≤ (mh 194 3) ∧ (mh 194 3) ≤ 99999 := zi_rd hImh zq_194 (zb_64 _)
              refine zw_ite (fun h158 => ?_) (fun h158 => ?_)
              · have b159 : 0 ≤ a1 ∧ a1 < 2 := by omega
                refine zw_if b159 ?_
                have r160 : (-2147483648) ≤ (mh 221 a1) ∧ (mh 221 a1) ≤ 2147483647 := zi_rd hImh zq_221 (zb_91 _)
                have w161 := zu_w32_rg ((mh 221 a1) + 1)
                have b162 : 0 ≤ a1 ∧ a1 < 2 := by omega
                refine zw_if b162 ?_
                generalize hmm163 : zu_up mh 221 a1 (zu_w32 ((mh 221 a1) + 1)) = m163
                have hIm163 := zi_up hmm163 hImh zq_221 (zb_91 _) (by omega) (by omega)
                have hFm163 := zfr_up hmm163 hFmh zq_221 rfl
                exact zw_some ⟨hIm163, hFm163, trivial⟩
              · have r164 : 0 ≤ (mh a0 66) ∧ (mh a0 66) ≤ 1 := zi_rd hImh hc0 zb_15_66
                refine zw_ite (fun h165 => ?_) (fun h165 => ?_)
                · have b166 : 0 ≤ a1 ∧ a1 < 2 := by omega
                  refine zw_if b166 ?_
                  have r167 : (-2147483648) ≤ (mh 221 a1) ∧ (mh 221 a1) ≤ 2147483647 := zi_rd hImh zq_221 (zb_91 _)
                  have w168 := zu_w32_rg ((mh 221 a1) + 1)
                  have b169 : 0 ≤ a1 ∧ a1 < 2 := by omega
                  refine zw_if b169 ?_
                  generalize hmm170 : zu_up mh 221 a1 (zu_w32 ((mh 221 a1) + 1)) = m170
                  have hIm170 := zi_up hmm170 hImh zq_221 (zb_91 _) (by omega) (by omega)
                  have hFm170 := zfr_up hmm170 hFmh zq_221 rfl
                  exact zw_some ⟨hIm170, hFm170, trivial⟩
                · have hM : (18 - 0) * 1 + 0 < (k : Int) := by omega
                  exact zw_le (zu_forget (zu_lr_same (zu_lr_same (zu_lr_same (zu_lr_same (zu_lr_drop zu_lr_nil)))))) (ih.2.2.2 x2 0 mh hImh hFmh ⟨by omega, by omega⟩ ⟨by omega, by omega⟩ ⟨by omega, by omega⟩ ⟨by omega, by omega⟩ hM)
            · have b171 : 0 ≤ (zu_w32 ((zu_w32 (18 * a1)) + x4)) ∧ (zu_w32 ((zu_w32 (18 * a1)) + x4)) < 36 := by omega
              refine zw_if b171 ?_
              generalize hmm172 : zu_up mh 215 (zu_w32 ((zu_w32 (18 * a1)) + x4)) (-2) = m172
              have hIm172 := zi_up hmm172 hImh zq_215 (zb_85 _) (by omega) (by omega)
              have hFm172 := zfr_up hmm172 hFmh zq_215 rfl
              have b173 : 0 ≤ (3 : Int) ∧ (3 : Int) < 10 := by omega
              refine zw_if b173 ?_
              have r174 : (-1) ≤ (m172 194 3) ∧ (m172 194 3) ≤ 99999 := zi_rd hIm172 zq_194 (zb_64 _)
              refine zw_ite (fun h175 => ?_) (fun h175 => ?_)
              · have b176 : 0 ≤ a1 ∧ a1 < 2 := by omega
                refine zw_if b176 ?_
                have r177 : (-2147483648) ≤ (m172 221 a1) ∧ (m172 221 a1) ≤ 2147483647 := zi_rd hIm172 zq_221 (zb_91 _)
                have w178 := zu_w32_rg ((m172 221 a1) + 1)
                have b179 : 0 ≤ a1 ∧ a1 < 2 := by omega
                refine zw_if b179 ?_
                generalize hmm180 : zu_up m172 221 a1 (zu_w32 ((m172 221 a1) + 1)) = m180
                have hIm180 := zi_up hmm180 hIm172 zq_221 (zb_91 _) (by omega) (by omega)
                have hFm180 := zfr_up hmm180 hFm172 zq_221 rfl
                exact zw_some ⟨hIm180, hFm180, trivial⟩
              · have r181 : 0 ≤ (m172 a0 66) ∧ (m172 a0 66) ≤ 1 := zi_rd hIm172 hc0 zb_15_66
                refine zw_ite (fun h182 => ?_) (fun h182 => ?_)
                · have b183 : 0 ≤ a1 ∧ a1 < 2 := by omega
                  refine zw_if b183 ?_
                  have r184 : (-2147483648) ≤ (m172 221 a1) ∧ (m172 221 a1) ≤ 2147483647 := zi_rd hIm172 zq_221 (zb_91 _)
                  have w185 := zu_w32_rg ((m172 221 a1) + 1)
                  have b186 : 0 ≤ a1 ∧ a1 < 2 := by omega
                  refine zw_if b186 ?_
                  generalize hmm187 : zu_up m172 221 a1 (zu_w32 ((m172 221 a1) + 1)) = m187
                  have hIm187 := zi_up hmm187 hIm172 zq_221 (zb_91 _) (by omega) (by omega)
                  have hFm187 := zfr_up hmm187 hFm172 zq_221 rfl
                  exact zw_some ⟨hIm187, hFm187, trivial⟩
                · have hM : (18 - 0) * 1 + 0 < (k : Int) := by omega
                  exact zw_le (zu_forget (zu_lr_same (zu_lr_same (zu_lr_same (zu_lr_same (zu_lr_drop zu_lr_nil)))))) (ih.2.2.2 x2 0 m172 hIm172 hFm172 ⟨by omega, by omega⟩ ⟨by omega, by omega⟩ ⟨by omega, by omega⟩ ⟨by omega, by omega⟩ hM)
          · have w188 := zu_w32_id (z := x4 + 1) (by omega) (by omega)
            have hM : (18 - (zu_w32 (x4 + 1))) * 1 + 19 < (k : Int) := by omega
            exact ih.2.2.1 x2 x3 (zu_w32 (x4 + 1)) mh hImh hFmh ⟨by omega, by omega⟩ ⟨by omega, by omega⟩ ⟨by omega, by omega⟩ ⟨by omega, by omega⟩ ⟨by omega, by omega⟩ hM
    · intro x2 x3 mh hImh hFmh hba1 hbx2 hbx3 hg3 hM
      refine zw_eq (zr_140_226 n a0 a1 x2 x3 mh) ?_
      have b189 : 0 ≤ a1 ∧ a1 < 2 := by omega
      refine zw_if b189 ?_
      have r190 : 0 ≤ (mh 216 a1) ∧ (mh 216 a1) ≤ 18 := zi_rdr (m := 2) (r0 := 0) (r1 := 1) hImh zq_216 (by omega) (by decide +kernel)
      refine zw_ite (fun h191 => ?_) (fun h191 => ?_)
      · have b192 : 0 ≤ a1 ∧ a1 < 2 := by omega
        refine zw_if b192 ?_
        have r193 : (-2147483648) ≤ (mh 221 a1) ∧ (mh 221 a1) ≤ 2147483647 := zi_rd hImh zq_221 (zb_91 _)
        have w194 := zu_w32_rg ((mh 221 a1) + 1)
        have b195 : 0 ≤ a1 ∧ a1 < 2 := by omega
        refine zw_if b195 ?_
        generalize hmm196 : zu_up mh 221 a1 (zu_w32 ((mh 221 a1) + 1)) = m196
        have hIm196 := zi_up hmm196 hImh zq_221 (zb_91 _) (by omega) (by omega)
        have hFm196 := zfr_up hmm196 hFmh zq_221 rfl
        exact zw_some ⟨hIm196, hFm196, trivial⟩
      · have w197 := zu_w32_id (z := 18 * a1) (by omega) (by omega)
        have w198 := zu_w32_id (z := (zu_w32 (18 * a1)) + x3) (by omega) (by omega)
        have b199 : 0 ≤ (zu_w32 ((zu_w32 (18 * a1)) + x3)) ∧ (zu_w32 ((zu_w32 (18 * a1)) + x3)) < 36 := by omega
        refine zw_if b199 ?_
        have r200 : (-3) ≤ (mh 215 (zu_w32 ((zu_w32 (18 * a1)) + x3))) ∧ (mh 215 (zu_w32 ((zu_w32 (18 * a1)) + x3))) ≤ 3 := zi_rd hImh zq_215 (zb_85 _)
        refine zw_ite (fun h201 => ?_) (fun h201 => ?_)
        · have w202 := zu_w32_id (z := x3 + 1) (by omega) (by omega)
          have hM : (18 - (zu_w32 (x3 + 1))) * 1 + 0 < (k : Int) := by omega
          exact ih.2.2.2 x2 (zu_w32 (x3 + 1)) mh hImh hFmh ⟨by omega, by omega⟩ ⟨by omega, by omega⟩ ⟨by omega, by omega⟩ ⟨by omega, by omega⟩ hM
        · have b203 : 0 ≤ x3 ∧ x3 < 36 := by omega
          refine zw_if b203 ?_
          have r204 : 0 ≤ (mh 197 x3) ∧ (mh 197 x3) ≤ 47 := zi_rd hImh zq_197 (zb_67 _)
          have b205 : 0 ≤ (mh 197 x3) ∧ (mh 197 x3) < 96 := by omega
          refine zw_if b205 ?_
          have r206 : (-2147483648) ≤ (mh 195 (mh 197 x3)) ∧ (mh 195 (mh 197 x3)) ≤ 2147483647 := zi_rd hImh zq_195 (zb_65 _)
          refine zw_ite (fun h207 => ?_) (fun h207 => ?_)
          · have w208 := zu_w32_id (z := x3 + 1) (by omega) (by omega)
            have hM : (18 - (zu_w32 (x3 + 1))) * 1 + 0 < (k : Int) := by omega
            exact ih.2.2.2 x2 (zu_w32 (x3 + 1)) mh hImh hFmh ⟨by omega, by omega⟩ ⟨by omega, by omega⟩ ⟨by omega, by omega⟩ ⟨by omega, by omega⟩ hM
          · have b209 : 0 ≤ (zu_w32 ((zu_w32 (18 * a1)) + x3)) ∧ (zu_w32 ((zu_w32 (18 * a1)) + x3)) < 36 := by omega
            refine zw_if b209 ?_
            generalize hmm210 : zu_up mh 215 (zu_w32 ((zu_w32 (18 * a1)) + x3)) (-3) = m210
            have hIm210 := zi_up hmm210 hImh zq_215 (zb_85 _) (by omega) (by omega)
            have hFm210 := zfr_up hmm210 hFmh zq_215 rfl
            have w211 := zu_w32_id (z := x3 + 1) (by omega) (by omega)
            have r212 : 0 ≤ (m210 a0 66) ∧ (m210 a0 66) ≤ 1 := zi_rd hIm210 hc0 zb_15_66
            have e213 : (m210 a0 66) = (mh a0 66) := (zs_ne hmm210 (Or.inl (zc_ne hc0 zq_215 (by decide))))
            have hM : (18 - (zu_w32 (x3 + 1))) * 1 + 0 < (k : Int) := by omega
            exact ih.2.2.2 x2 (zu_w32 (x3 + 1)) m210 hIm210 hFm210 ⟨by omega, by omega⟩ ⟨by omega, by omega⟩ ⟨by omega, by omega⟩ ⟨by omega, by omega⟩ hM
set_option maxHeartbeats 4000000 in
theorem zk_140 (n : Nat) {a0 a1 : Int} {m0 : zu_m} (hIm0 : zi_I m0) (hc0 : zcls a0 = 15) (ha1 : 0 ≤ a1 ∧ a1 ≤ 1)    : zw (zu_call (zt_T n) 140 [(40, a0), (0, a1)] m0) (fun v m => zi_I m ∧ zfr [(15, 54), (15, 64), (83, 0), (84, 0), (85, 0), (87, 0), (89, 0), (90, 0), (91, 0), (92, 0)] m0 m ∧ True) := by
  have hFm0 : zfr [(15, 54), (15, 64), (83, 0), (84, 0), (85, 0), (87, 0), (89, 0), (90, 0), (91, 0), (92, 0)] m0 m0 := zfr_rf _ _
  refine zw_eq (zr_140_0 n a0 a1 m0) ?_
  have b214 : 0 ≤ a1 ∧ a1 < 2 := by omega
  refine zw_if b214 ?_
  have r215 : (-2147483648) ≤ (m0 221 a1) ∧ (m0 221 a1) ≤ 2147483647 := zi_rd hIm0 zq_221 (zb_91 _)
  have hM : (4 - 0) * 1 + 43 < ((48 : Nat) : Int) := by omega
  exact (zl_140 n (m0 := m0) hc0 48).1 (m0 221 a1) 0 m0 hIm0 hFm0 ⟨by omega, by omega⟩ ⟨by omega, by omega⟩ ⟨by omega, by omega⟩ hM
set_option maxHeartbeats 4000000 in
theorem zl_153 (n : Nat) {a0 a1 : Int} {m0 : zu_m} (hc0 : zcls a0 = 15)  : ∀ k : Nat, (∀ (x2 : Int) (mh : zu_m), zi_I mh → zfr [(15, 3), (15, 54), (15, 64), (15, 65), (15, 66), (15, 67), (15, 68), (15, 69), (15, 70), (15, 82), (83, 0), (84, 0), (85, 0), (87, 0), (89, 0), (90, 0), (91, 0), (92, 0)] m0 mh → (0 ≤ a1 ∧ a1 ≤ 200) → (0 ≤ x2 ∧ x2 ≤ 200) → (0 ≤ mh a0 2 ∧ mh a0 2 ≤ 0) → (0 ≤ mh a0 65 ∧ mh a0 65 ≤ 0) → (0 ≤ mh a0 66 ∧ mh a0 66 ≤ 0) → (0 ≤ mh a0 67 ∧ mh a0 67 ≤ 0) → (0 ≤ mh a0 68 ∧ mh a0 68 ≤ 0) → ((-1) ≤ mh a0 69 ∧ mh a0 69 ≤ (-1)) → (200 - x2) * 1 + 0 < (k : Int) → zw (zu_ex (zt_T n) 153 38 [(40, a0), (0, a1), (0, x2)] [] mh) (fun v m => zi_I m ∧ zfr [(15, 3), (15, 54), (15, 64), (15, 65), (15, 66), (15, 67), (15, 68), (15, 69), (15, 70), (15, 82), (83, 0), (84, 0), (85, 0), (87, 0), (89, 0), (90, 0), (91, 0), (92, 0)] m0 m ∧ ((-2147483648) ≤ v ∧ v ≤ 2147483647) ∧ (0 ≤ m a0 2 ∧ m a0 2 ≤ 0))) := by
  intro k
  induction k with
  | zero => exact fun x2 mh hImh hFmh hba1 hbx2 hg2 hg3 hg4 hg5 hg6 hg7 hM => by exfalso; omega
  | succ k ih =>
    intro x2 mh hImh hFmh hba1 hbx2 hg2 hg3 hg4 hg5 hg6 hg7 hM
    refine zw_eq (zr_153_38 n a0 a1 x2 mh) ?_
    refine zw_ite (fun h1 => ?_) (fun h1 => ?_)
    · refine zw_ite (fun h2 => ?_) (fun h2 => ?_)
      · have r3 : 0 ≤ (mh a0 81) ∧ (mh a0 81) ≤ 20 := zi_rd hImh hc0 zb_15_81
        generalize hmm4 : zu_up mh a0 81 (mh a0 81) = m4
        have hIm4 := zi_up hmm4 hImh hc0 zb_15_81 (by omega) (by omega)
        have hFm4 := zfr_up hmm4 hFmh hc0 rfl
        have b5 : 0 ≤ (0 : Int) ∧ (0 : Int) < 2 := by omega
        refine zw_if b5 ?_
        have r6 : (-2147483648) ≤ (m4 221 0) ∧ (m4 221 0) ≤ 2147483647 := zi_rd hIm4 zq_221 (zb_91 _)
        have r7 : (-2147483648) ≤ (m4 a0 2) ∧ (m4 a0 2) ≤ 2147483647 := zi_rd hIm4 hc0 zb_15_2
        have e8 : (m4 a0 2) = (mh a0 2) := (zs_ne hmm4 (Or.inr (by decide)))
        exact zw_some ⟨hIm4, hFm4, ⟨by omega, by omega⟩, ⟨by omega, by omega⟩⟩
      · generalize hmm9 : zu_up mh a0 81 0 = m9
        have hIm9 := zi_up hmm9 hImh hc0 zb_15_81 (by omega) (by omega)
        have hFm9 := zfr_up hmm9 hFmh hc0 rfl
        have b10 : 0 ≤ (0 : Int) ∧ (0 : Int) < 2 := by omega
        refine zw_if b10 ?_
        have r11 : (-2147483648) ≤ (m9 221 0) ∧ (m9 221 0) ≤ 2147483647 := zi_rd hIm9 zq_221 (zb_91 _)
        have r12 : (-2147483648) ≤ (m9 a0 2) ∧ (m9 a0 2) ≤ 2147483647 := zi_rd hIm9 hc0 zb_15_2
        have e13 : (m9 a0 2) = (mh a0 2) := (zs_ne hmm9 (Or.inr (by decide)))
        exact zw_some ⟨hIm9, hFm9, ⟨by omega, by omega⟩, ⟨by omega, by omega⟩⟩
    · refine zw_bd (zw_mono (zk_140 n hImh hc0 ⟨by omega, by omega⟩) (fun v15 m14 hqm14 => ?_))
      obtain ⟨hIm14, hfm14, hvm14⟩ := hqm14
      have hFm14 := zfr_tr hFmh hfm14 rfl
      have w16 := zu_w32_id (z := x2 + 1) (by omega) (by omega)
      have r17 : (-2147483648) ≤ (m14 a0 2) ∧ (m14 a0 2) ≤ 2147483647 := zi_rd hIm14 hc0 zb_15_2
      have e18 : (m14 a0 2) = (mh a0 2) := (zfr_ap hfm14 hc0 rfl)
      have r19 : (-2147483648) ≤ (m14 a0 69) ∧ (m14 a0 69) ≤ 2147483647 := zi_rd hIm14 hc0 zb_15_69
      have e20 : (m14 a0 69) = (mh a0 69) := (zfr_ap hfm14 hc0 rfl)
      have r21 : 0 ≤ (m14 a0 65) ∧ (m14 a0 65) ≤ 1 := zi_rd hIm14 hc0 zb_15_65
      have e22 : (m14 a0 65) = (mh a0 65) := (zfr_ap hfm14 hc0 rfl)
      have r23 : 0 ≤ (m14 a0 66) ∧ (m14 a0 66) ≤ 1 := zi_rd hIm14 hc0 zb_15_66
      have e24 : (m14 a0 66) = (mh a0 66) := (zfr_ap hfm14 hc0 rfl)
      have r25 : 0 ≤ (m14 a0 67) ∧ (m14 a0 67) ≤ 1 := zi_rd hIm14 hc0 zb_15_67
      have e26 : (m14 a0 67) = (mh a0 67) := (zfr_ap hfm14 hc0 rfl)
      have r27 : 0 ≤ (m14 a0 68) ∧ (m14 a0 68) ≤ 1 := zi_rd hIm14 hc0 zb_15_68
      have e28 : (m14 a0 68) = (mh a0 68) := (zfr_ap hfm14 hc0 rfl)
      have hM : (200 - (zu_w32 (x2 + 1))) * 1 + 0 < (k : Int) := by omega
      exact ih (zu_w32 (x2 + 1)) m14 hIm14 hFm14 ⟨by omega, by omega⟩ ⟨by omega, by omega⟩ ⟨by omega, by omega⟩ ⟨by omega, by omega⟩ ⟨by omega, by omega⟩ ⟨by omega, by omega⟩ ⟨by omega, by omega⟩ ⟨by omega, by omega⟩ hM
set_option maxHeartbeats 4000000 in
theorem zk_153 (n : Nat) {a0 a1 : Int} {m0 : zu_m} (hIm0 : zi_I m0) (hc0 : zcls a0 = 15) (ha1 : (-2147483648) ≤ a1 ∧ a1 ≤ 2147483647)    : zw (zu_call (zt_T n) 153 [(40, a0), (0, a1)] m0) (fun v m => zi_I m ∧ zfr [(15, 3), (15, 54), (15, 64), (15, 65), (15, 66), (15, 67), (15, 68), (15, 69), (15, 70), (15, 82), (83, 0), (84, 0), (85, 0), (87, 0), (89, 0), (90, 0), (91, 0), (92, 0)] m0 m ∧ ((-2147483648) ≤ v ∧ v ≤ 2147483647) ∧ (0 ≤ m a0 2 ∧ m a0 2 ≤ 0)) := by
  have hFm0 : zfr [(15, 3), (15, 54), (15, 64), (15, 65), (15, 66), (15, 67), (15, 68), (15, 69), (15, 70), (15, 82), (83, 0), (84, 0), (85, 0), (87, 0), (89, 0), (90, 0), (91, 0), (92, 0)] m0 m0 := zfr_rf _ _
  refine zw_eq (zr_153_0 n a0 a1 m0) ?_
  generalize hmm29 : zu_up m0 a0 2 0 = m29
  have hIm29 := zi_up hmm29 hIm0 hc0 zb_15_2 (by omega) (by omega)
  have hFm29 := zfr_up hmm29 hFm0 hc0 rfl
  refine zw_bd (zw_eq (zr_83_0 n a1 0 200 m29) ?_)
  refine zw_ite (fun h30 => ?_) (fun h30 => ?_)
  · refine zw_b (by omega) ?_
    refine zw_some ?_
    refine zw_ite (fun h31 => ?_) (fun h31 => ?_)
    · have r32 : (-2147483648) ≤ (m29 a0 2) ∧ (m29 a0 2) ≤ 2147483647 := zi_rd hIm29 hc0 zb_15_2
      have e33 : (m29 a0 2) = 0 := (zs_eq hmm29)
      exact zw_some ⟨hIm29, hFm29, ⟨by omega, by omega⟩, ⟨by omega, by omega⟩⟩
    · exfalso; omega
  · refine zw_ite (fun h34 => ?_) (fun h34 => ?_)
    · refine zw_b (by omega) ?_
      refine zw_some ?_
      refine zw_ite (fun h35 => ?_) (fun h35 => ?_)
      · have r36 : (-2147483648) ≤ (m29 a0 2) ∧ (m29 a0 2) ≤ 2147483647 := zi_rd hIm29 hc0 zb_15_2
        have e37 : (m29 a0 2) = 0 := (zs_eq hmm29)
        exact zw_some ⟨hIm29, hFm29, ⟨by omega, by omega⟩, ⟨by omega, by omega⟩⟩
      · exfalso; omega
    · refine zw_b (by omega) ?_
      refine zw_some ?_
      refine zw_ite (fun h38 => ?_) (fun h38 => ?_)
      · exfalso; omega
      · have b39 : 0 ≤ (0 : Int) ∧ (0 : Int) < 2 := by omega
        refine zw_if b39 ?_
        have r40 : (-2147483648) ≤ (m29 221 0) ∧ (m29 221 0) ≤ 2147483647 := zi_rd hIm29 zq_221 (zb_91 _)
        have w41 := zu_w32_rg ((m29 221 0) + a1)
        refine zw_ite (fun h42 => ?_) (fun h42 => ?_)
        · refine zw_bd (zw_mono (zk_35 n hIm29 hc0) (fun v44 m43 hqm43 => ?_))
          obtain ⟨hIm43, hfm43, hvm43⟩ := hqm43
          have hFm43 := zfr_tr hFm29 hfm43 rfl
          have r45 : (-2147483648) ≤ (m43 a0 2) ∧ (m43 a0 2) ≤ 2147483647 := zi_rd hIm43 hc0 zb_15_2
          have e46 : (m43 a0 2) = 0 := (Eq.trans (zfr_ap hfm43 hc0 rfl) (zs_eq hmm29))
          have hM : (200 - 0) * 1 + 0 < ((201 : Nat) : Int) := by omega
          exact (zl_153 n (m0 := m0) hc0 201) 0 m43 hIm43 hFm43 ⟨by omega, by omega⟩ ⟨by omega, by omega⟩ ⟨by omega, by omega⟩ ⟨by omega, by omega⟩ ⟨by omega, by omega⟩ ⟨by omega, by omega⟩ ⟨by omega, by omega⟩ ⟨by omega, by omega⟩ hM
        · have r47 : (-2147483648) ≤ (m29 a0 2) ∧ (m29 a0 2) ≤ 2147483647 := zi_rd hIm29 hc0 zb_15_2
          have e48 : (m29 a0 2) = 0 := (zs_eq hmm29)
          exact zw_some ⟨hIm29, hFm29, ⟨by omega, by omega⟩, ⟨by omega, by omega⟩⟩
set_option maxHeartbeats 4000000 in
theorem zl_159 (n : Nat) {a0 a1 : Int} {m0 : zu_m} (hc0 : zcls a0 = 15)  : ∀ k : Nat, (∀ (x2 : Int) (mh : zu_m), zi_I mh → zfr [(15, 54), (15, 64), (15, 65), (15, 66), (15, 67), (15, 68), (15, 69), (15, 70), (83, 0), (84, 0), (85, 0), (87, 0), (89, 0), (90, 0), (91, 0), (92, 0)] m0 mh → (0 ≤ a1 ∧ a1 ≤ 200) → (0 ≤ x2 ∧ x2 ≤ 200) → (1 ≤ mh a0 65 ∧ mh a0 65 ≤ 1) → (200 - x2) * 1 + 0 < (k : Int) → zw (zu_ex (zt_T n) 159 7 [(40, a0), (0, a1), (0, x2)] [] mh) (fun v m => zi_I m ∧ zfr [(15, 54), (15, 64), (15, 65), (15, 66), (15, 67), (15, 68), (15, 69), (15, 70), (83, 0), (84, 0), (85, 0), (87, 0), (89, 0), (90, 0), (91, 0), (92, 0)] m0 m ∧ True ∧ (0 ≤ m a0 65 ∧ m a0 65 ≤ 0))) := by
  intro k
  induction k with
  | zero => exact fun x2 mh hImh hFmh hba1 hbx2 hg2 hM => by exfalso; omega
  | succ k ih =>
    intro x2 mh hImh hFmh hba1 hbx2 hg2 hM
    refine zw_eq (zr_159_7 n a0 a1 x2 mh) ?_
    refine zw_ite (fun h1 => ?_) (fun h1 => ?_)
    · refine zw_bd (zw_mono (zk_35 n hImh hc0) (fun v3 m2 hqm2 => ?_))
      obtain ⟨hIm2, hfm2, hvm2⟩ := hqm2
      have hFm2 := zfr_tr hFmh hfm2 rfl
      exact zw_some ⟨hIm2, hFm2, trivial, ⟨by omega, by omega⟩⟩
    · refine zw_bd (zw_mono (zk_140 n hImh hc0 ⟨by omega, by omega⟩) (fun v5 m4 hqm4 => ?_))
      obtain ⟨hIm4, hfm4, hvm4⟩ := hqm4
      have hFm4 := zfr_tr hFmh hfm4 rfl
      have w6 := zu_w32_id (z := x2 + 1) (by omega) (by omega)
      have r7 : 0 ≤ (m4 a0 65) ∧ (m4 a0 65) ≤ 1 := zi_rd hIm4 hc0 zb_15_65
      have e8 : (m4 a0 65) = (mh a0 65) := (zfr_ap hfm4 hc0 rfl)
      have hM : (200 - (zu_w32 (x2 + 1))) * 1 + 0 < (k : Int) := by omega
      exact ih (zu_w32 (x2 + 1)) m4 hIm4 hFm4 ⟨by omega, by omega⟩ ⟨by omega, by omega⟩ ⟨by omega, by omega⟩ hM
set_option maxHeartbeats 4000000 in
theorem zk_159 (n : Nat) {a0 a1 : Int} {m0 : zu_m} (hIm0 : zi_I m0) (hc0 : zcls a0 = 15) (ha1 : 0 ≤ a1 ∧ a1 ≤ 200)    : zw (zu_call (zt_T n) 159 [(40, a0), (0, a1)] m0) (fun v m => zi_I m ∧ zfr [(15, 54), (15, 64), (15, 65), (15, 66), (15, 67), (15, 68), (15, 69), (15, 70), (83, 0), (84, 0), (85, 0), (87, 0), (89, 0), (90, 0), (91, 0), (92, 0)] m0 m ∧ True ∧ (0 ≤ m a0 65 ∧ m a0 65 ≤ 0)) := by
  have hFm0 : zfr [(15, 54), (15, 64), (15, 65), (15, 66), (15, 67), (15, 68), (15, 69), (15, 70), (83, 0), (84, 0), (85, 0), (87, 0), (89, 0), (90, 0), (91, 0), (92, 0)] m0 m0 := zfr_rf _ _
  refine zw_eq (zr_159_0 n a0 a1 m0) ?_
  refine zw_b (by omega) ?_
  generalize hmm9 : zu_up m0 a0 65 1 = m9
  have hIm9 := zi_up hmm9 hIm0 hc0 zb_15_65 (by omega) (by omega)
  have hFm9 := zfr_up hmm9 hFm0 hc0 rfl
  have r10 : 0 ≤ (m9 a0 65) ∧ (m9 a0 65) ≤ 1 := zi_rd hIm9 hc0 zb_15_65
  have e11 : (m9 a0 65) = 1 := (zs_eq hmm9)
  have hM : (200 - 0) * 1 + 0 < ((201 : Nat) : Int) := by omega
  exact (zl_159 n (m0 := m0) hc0 201) 0 m9 hIm9 hFm9 ⟨by omega, by omega⟩ ⟨by omega, by omega⟩ ⟨by omega, by omega⟩ hM

set_option maxHeartbeats 4000000 in
theorem zl_26 (n : Nat) {a0 a1 a2 : Int} {m0 : zu_m} (hc0 : zcls a0 = 12) (hc2 : zcls a2 = 59)   : ∀ k : Nat, (∀ (x3 x4 : Int) (mh : zu_m), zi_I mh → zfr [(56, 0)] m0 mh → (0 ≤ a1 ∧ a1 ≤ 3) → (0 ≤ x3 ∧ x3 ≤ 64) → (0 ≤ x4 ∧ x4 ≤ 64) → (x3 ≤ x4 - (m0 (a0 + 3) a1)) → (0 ≤ (m0 (a0 + 3) a1)) → (zR_K54 mh) → (64 - x4) * 3 + 2 < (k : Int) → zw (zu_ex (zt_T n) 26 23 [(10, a0), (0, a1), (15, a2), (0, x3), (0, x4), (2, 0), (2, 0)] [] mh) (fun v m => zi_I m ∧ zfr [(56, 0)] m0 m ∧ zR_K54 m ∧ ((-9223372036854775808) ≤ v ∧ v ≤ 9223372036854775807))) ∧ (∀ (x3 x4 y0 : Int) (mh : zu_m), zi_I mh → zfr [(56, 0)] m0 mh → (0 ≤ a1 ∧ a1 ≤ 3) → (1 ≤ x3 ∧ x3 ≤ 63) → (0 ≤ x4 ∧ x4 ≤ 63) → ((-9223372036854775808) ≤ y0 ∧ y0 ≤ 9223372036854775807) → (x3 ≤ x4 - (m0 (a0 + 3) a1)) → (0 ≤ (m0 (a0 + 3) a1)) → (zR_K54 mh) → (64 - x4) * 3 + 1 < (k : Int) → zw (zu_ex (zt_T n) 26 240 [(10, a0), (0, a1), (15, a2), (0, x3), (0, x4), (2, 0), (2, 0)] [(1, y0)] mh) (fun v m => zi_I m ∧ zfr [(56, 0)] m0 m ∧ zR_K54 m ∧ ((-9223372036854775808) ≤ v ∧ v ≤ 9223372036854775807))) ∧ (∀ (x3 x4 : Int) (mh : zu_m), zi_I mh → zfr [(56, 0)] m0 mh → (0 ≤ a1 ∧ a1 ≤ 3) → (1 ≤ x3 ∧ x3 ≤ 64) → (0 ≤ x4 ∧ x4 ≤ 63) → (x3 ≤ x4 - (m0 (a0 + 3) a1) + 1) → (0 ≤ (m0 (a0 + 3) a1)) → (zR_K54 mh) → (64 - x4) * 3 + 0 < (k : Int) → zw (zu_ex (zt_T n) 26 274 [(10, a0), (0, a1), (15, a2), (0, x3), (0, x4), (2, 0), (2, 0)] [] mh) (fun v m => zi_I m ∧ zfr [(56, 0)] m0 m ∧ zR_K54 m ∧ ((-9223372036854775808) ≤ v ∧ v ≤ 9223372036854775807))) := by
  intro k
  induction k with
  | zero => exact ⟨fun x3 x4 mh hImh hFmh hba1 hbx3 hbx4 hH0 hH1 hRK54mh hM => by exfalso; omega, fun x3 x4 y0 mh hImh hFmh hba1 hbx3 hbx4 hby0 hH0 hH1 hRK54mh hM => by exfalso; omega, fun x3 x4 mh hImh hFmh hba1 hbx3 hbx4 hH0 hH1 hRK54mh hM => by exfalso; omega⟩
  | succ k ih =>
    refine ⟨?_, ?_, ?_⟩
    · intro x3 x4 mh hImh hFmh hba1 hbx3 hbx4 hH0 hH1 hRK54mh hM
      refine zw_eq (zu_rega_at (zt_T n) (zm_26 n) (zdp_26 n) _ _ _ _ _ _ (zr_26_23 n _ _ a0 a1 a2 x3 x4 mh)) ?_
      have b1 : 0 ≤ a1 ∧ a1 < 4 := by omega
      refine zw_if b1 ?_
      have r2 : (-1) ≤ (mh (a0 + 4) a1) ∧ (mh (a0 + 4) a1) ≤ 64 := zi_rd hImh (zc_12_3 hc0) (zb_55 _)
      refine zw_ite (fun h3 => ?_) (fun h3 => ?_)
      · refine zw_ite (fun h4 => ?_) (fun h4 => ?_)
        · exact zw_some ⟨hImh, hFmh, hRK54mh, ⟨by omega, by omega⟩⟩
        · have b5 : 0 ≤ (0 : Int) ∧ (0 : Int) < 64 := by omega
          refine zw_if b5 ?_
          have r6 : (-9223372036854775808) ≤ (mh (a0 + 5) 0) ∧ (mh (a0 + 5) 0) ≤ 9223372036854775807 := zi_rd hImh (zc_12_4 hc0) (zb_56 _)
          exact zw_some ⟨hImh, hFmh, hRK54mh, ⟨by omega, by omega⟩⟩
      · refine zw_ite (fun h7 => ?_) (fun h7 => ?_)
        · exfalso; omega
        · have b8 : 0 ≤ x4 ∧ x4 < 64 := by omega
          refine zw_if b8 ?_
          have r9 : 0 ≤ (mh (a0 + 1) x4) ∧ (mh (a0 + 1) x4) ≤ 17 := zi_rd hImh (zc_12_0 hc0) (zb_52 _)
          refine zw_ite (fun h10 => ?_) (fun h10 => ?_)
          · have b11 : 0 ≤ x4 ∧ x4 < 64 := by omega
            refine zw_if b11 ?_
            refine zw_ite (fun h12 => ?_) (fun h12 => ?_)
            · have b13 : 0 ≤ x4 ∧ x4 < 64 := by omega
              refine zw_if b13 ?_
              refine zw_ite (fun h14 => ?_) (fun h14 => ?_)
              · refine zw_ite (fun h15 => ?_) (fun h15 => ?_)
                · have w16 := zu_w32_id (z := x3 + (-1)) (by omega) (by omega)
                  have b17 : 0 ≤ x4 ∧ x4 < 64 := by omega
                  refine zw_if b17 ?_
                  refine zw_ite (fun h18 => ?_) (fun h18 => ?_)
                  · have b19 : 0 ≤ x4 ∧ x4 < 64 := by omega
                    refine zw_if b19 ?_
                    have w20 := zu_w32_id (z := (zu_w32 (x3 + (-1))) - 1) (by omega) (by omega)
                    have b21 : 0 ≤ (zu_w32 ((zu_w32 (x3 + (-1))) - 1)) ∧ (zu_w32 ((zu_w32 (x3 + (-1))) - 1)) < 64 := by omega
                    refine zw_if b21 ?_
                    have r22 : (-9223372036854775808) ≤ (mh (a0 + 5) (zu_w32 ((zu_w32 (x3 + (-1))) - 1))) ∧ (mh (a0 + 5) (zu_w32 ((zu_w32 (x3 + (-1))) - 1))) ≤ 9223372036854775807 := zi_rd hImh (zc_12_4 hc0) (zb_56 _)
                    have b23 : 0 ≤ (zu_w32 (x3 + (-1))) ∧ (zu_w32 (x3 + (-1))) < 64 := by omega
                    refine zw_if b23 ?_
                    have r24 : (-9223372036854775808) ≤ (mh (a0 + 5) (zu_w32 (x3 + (-1)))) ∧ (mh (a0 + 5) (zu_w32 (x3 + (-1)))) ≤ 9223372036854775807 := zi_rd hImh (zc_12_4 hc0) (zb_56 _)
                    refine zw_bd (zw_mono (zk_209 n hImh ⟨by omega, by omega⟩ ⟨by omega, by omega⟩ ⟨by omega, by omega⟩) (fun v26 m25 hqm25 => ?_))
                    obtain ⟨hIm25, hfm25, hvm25⟩ := hqm25
                    have hFm25 := zfr_tr hFmh hfm25 rfl
                    have hRK54m25 := zR_K54_fr (zdis_fr hfm25 rfl) hRK54mh
                    refine zw_ite (fun h27 => ?_) (fun h27 => ?_)
                    · have hM : (64 - x4) * 3 + 1 < (k : Int) := by omega
                      exact ih.2.1 (zu_w32 (x3 + (-1))) x4 0 m25 hIm25 hFm25 ⟨by omega, by omega⟩ ⟨by omega, by omega⟩ ⟨by omega, by omega⟩ ⟨by omega, by omega⟩ (by omega) (by omega) hRK54m25 hM
                    · have hM : (64 - x4) * 3 + 1 < (k : Int) := by omega
                      exact ih.2.1 (zu_w32 (x3 + (-1))) x4 1 m25 hIm25 hFm25 ⟨by omega, by omega⟩ ⟨by omega, by omega⟩ ⟨by omega, by omega⟩ ⟨by omega, by omega⟩ (by omega) (by omega) hRK54m25 hM
                  · have b28 : 0 ≤ x4 ∧ x4 < 64 := by omega
                    refine zw_if b28 ?_
                    have w29 := zu_w32_id (z := (zu_w32 (x3 + (-1))) - 1) (by omega) (by omega)
                    have b30 : 0 ≤ (zu_w32 ((zu_w32 (x3 + (-1))) - 1)) ∧ (zu_w32 ((zu_w32 (x3 + (-1))) - 1)) < 64 := by omega
                    refine zw_if b30 ?_
                    have r31 : (-9223372036854775808) ≤ (mh (a0 + 5) (zu_w32 ((zu_w32 (x3 + (-1))) - 1))) ∧ (mh (a0 + 5) (zu_w32 ((zu_w32 (x3 + (-1))) - 1))) ≤ 9223372036854775807 := zi_rd hImh (zc_12_4 hc0) (zb_56 _)
                    have b32 : 0 ≤ (zu_w32 (x3 + (-1))) ∧ (zu_w32 (x3 + (-1))) < 64 := by omega
                    refine zw_if b32 ?_
                    have r33 : (-9223372036854775808) ≤ (mh (a0 + 5) (zu_w32 (x3 + (-1)))) ∧ (mh (a0 + 5) (zu_w32 (x3 + (-1)))) ≤ 9223372036854775807 := zi_rd hImh (zc_12_4 hc0) (zb_56 _)
                    refine zw_bd (zw_mono (zk_208 n hImh ⟨by omega, by omega⟩ ⟨by omega, by omega⟩ ⟨by omega, by omega⟩) (fun v35 m34 hqm34 => ?_))
                    obtain ⟨hIm34, hfm34, hvm34⟩ := hqm34
                    have hFm34 := zfr_tr hFmh hfm34 rfl
                    have hRK54m34 := zR_K54_fr (zdis_fr hfm34 rfl) hRK54mh
                    have hM : (64 - x4) * 3 + 1 < (k : Int) := by omega
                    exact ih.2.1 (zu_w32 (x3 + (-1))) x4 v35 m34 hIm34 hFm34 ⟨by omega, by omega⟩ ⟨by omega, by omega⟩ ⟨by omega, by omega⟩ ⟨by omega, by omega⟩ (by omega) (by omega) hRK54m34 hM
                · exact zw_some ⟨hImh, hFmh, hRK54mh, ⟨by omega, by omega⟩⟩
              · refine zw_ite (fun h36 => ?_) (fun h36 => ?_)
                · have w37 := zu_w32_id (z := x3 - 1) (by omega) (by omega)
                  have b38 : 0 ≤ (zu_w32 (x3 - 1)) ∧ (zu_w32 (x3 - 1)) < 64 := by omega
                  refine zw_if b38 ?_
                  have r39 : (-9223372036854775808) ≤ (mh (a0 + 5) (zu_w32 (x3 - 1))) ∧ (mh (a0 + 5) (zu_w32 (x3 - 1))) ≤ 9223372036854775807 := zi_rd hImh (zc_12_4 hc0) (zb_56 _)
                  have c40 := zu_lcmp_sp (mh (a0 + 5) (zu_w32 (x3 - 1))) 0
                  refine zw_ite (fun h41 => ?_) (fun h41 => ?_)
                  · have b42 : 0 ≤ (zu_w32 (x3 - 1)) ∧ (zu_w32 (x3 - 1)) < 64 := by omega
                    refine zw_if b42 ?_
                    generalize hmm43 : zu_up mh (a0 + 5) (zu_w32 (x3 - 1)) 0 = m43
                    have hIm43 := zi_up hmm43 hImh (zc_12_4 hc0) (zb_56 _) (by omega) (by omega)
                    have hFm43 := zfr_up hmm43 hFmh (zc_12_4 hc0) rfl
                    have hRK54m43 := zR_K54_fr (zdis_fr (zfr_up hmm43 (zfr_rf [(56, 0)] _) (zc_12_4 hc0) rfl) rfl) hRK54mh
                    have hM : (64 - x4) * 3 + 0 < (k : Int) := by omega
                    exact ih.2.2 x3 x4 m43 hIm43 hFm43 ⟨by omega, by omega⟩ ⟨by omega, by omega⟩ ⟨by omega, by omega⟩ (by omega) (by omega) hRK54m43 hM
                  · have b44 : 0 ≤ (zu_w32 (x3 - 1)) ∧ (zu_w32 (x3 - 1)) < 64 := by omega
                    refine zw_if b44 ?_
                    generalize hmm45 : zu_up mh (a0 + 5) (zu_w32 (x3 - 1)) 1 = m45
                    have hIm45 := zi_up hmm45 hImh (zc_12_4 hc0) (zb_56 _) (by omega) (by omega)
                    have hFm45 := zfr_up hmm45 hFmh (zc_12_4 hc0) rfl
                    have hRK54m45 := zR_K54_fr (zdis_fr (zfr_up hmm45 (zfr_rf [(56, 0)] _) (zc_12_4 hc0) rfl) rfl) hRK54mh
                    have hM : (64 - x4) * 3 + 0 < (k : Int) := by omega
                    exact ih.2.2 x3 x4 m45 hIm45 hFm45 ⟨by omega, by omega⟩ ⟨by omega, by omega⟩ ⟨by omega, by omega⟩ (by omega) (by omega) hRK54m45 hM
                · exact zw_some ⟨hImh, hFmh, hRK54mh, ⟨by omega, by omega⟩⟩
            · have b46 : 0 ≤ x4 ∧ x4 < 64 := by omega
              refine zw_if b46 ?_
              have r47 : (-2147483648) ≤ (mh (a0 + 2) x4) ∧ (mh (a0 + 2) x4) ≤ 2147483647 := zi_rd hImh (zc_12_1 hc0) (zb_53 _)
              have s48 := hRK54mh a0 x4 hc0 (by omega) (by omega) (by omega)
              have b49 : 0 ≤ (mh (a0 + 2) x4) ∧ (mh (a0 + 2) x4) < 7 := by omega
              refine zw_if b49 ?_
              have r50 : (-2147483648) ≤ (mh a2 (mh (a0 + 2) x4)) ∧ (mh a2 (mh (a0 + 2) x4)) ≤ 2147483647 := zi_rdr (m := 7) (r0 := 0) (r1 := 6) hImh hc2 (by omega) (by decide +kernel)
              have b51 : 0 ≤ x3 ∧ x3 < 64 := by omega
              refine zw_if b51 ?_
              generalize hmm52 : zu_up mh (a0 + 5) x3 (mh a2 (mh (a0 + 2) x4)) = m52
              have hIm52 := zi_up hmm52 hImh (zc_12_4 hc0) (zb_56 _) (by omega) (by omega)
              have hFm52 := zfr_up hmm52 hFmh (zc_12_4 hc0) rfl
              have hRK54m52 := zR_K54_fr (zdis_fr (zfr_up hmm52 (zfr_rf [(56, 0)] _) (zc_12_4 hc0) rfl) rfl) hRK54mh
              have w53 := zu_w32_id (z := x3 + 1) (by omega) (by omega)
              have hM : (64 - x4) * 3 + 0 < (k : Int) := by omega
              exact ih.2.2 (zu_w32 (x3 + 1)) x4 m52 hIm52 hFm52 ⟨by omega, by omega⟩ ⟨by omega, by omega⟩ ⟨by omega, by omega⟩ (by omega) (by omega) hRK54m52 hM
          · have b54 : 0 ≤ x4 ∧ x4 < 64 := by omega
            refine zw_if b54 ?_
            have r55 : (-2147483648) ≤ (mh (a0 + 2) x4) ∧ (mh (a0 + 2) x4) ≤ 2147483647 := zi_rd hImh (zc_12_1 hc0) (zb_53 _)
            have b56 : 0 ≤ x3 ∧ x3 < 64 := by omega
            refine zw_if b56 ?_
            generalize hmm57 : zu_up mh (a0 + 5) x3 (mh (a0 + 2) x4) = m57
            have hIm57 := zi_up hmm57 hImh (zc_12_4 hc0) (zb_56 _) (by omega) (by omega)
            have hFm57 := zfr_up hmm57 hFmh (zc_12_4 hc0) rfl
            have hRK54m57 := zR_K54_fr (zdis_fr (zfr_up hmm57 (zfr_rf [(56, 0)] _) (zc_12_4 hc0) rfl) rfl) hRK54mh
            have w58 := zu_w32_id (z := x3 + 1) (by omega) (by omega)
            have hM : (64 - x4) * 3 + 0 < (k : Int) := by omega
            exact ih.2.2 (zu_w32 (x3 + 1)) x4 m57 hIm57 hFm57 ⟨by omega, by omega⟩ ⟨by omega, by omega⟩ ⟨by omega, by omega⟩ (by omega) (by omega) hRK54m57 hM
    · intro x3 x4 y0 mh hImh hFmh hba1 hbx3 hbx4 hby0 hH0 hH1 hRK54mh hM
      refine zw_eq (zu_rega_at (zt_T n) (zm_26 n) (zdp_26 n) _ _ _ _ _ _ (zr_26_240 n _ _ a0 a1 a2 x3 x4 y0 mh)) ?_
      have c59 := zu_lcmp_sp y0 1000000000000
      refine zw_ite (fun h60 => ?_) (fun h60 => ?_)
      · exact zw_some ⟨hImh, hFmh, hRK54mh, ⟨by omega, by omega⟩⟩
      · have c61 := zu_lcmp_sp y0 (-1000000000000)
        refine zw_ite (fun h62 => ?_) (fun h62 => ?_)
        · have w63 := zu_w32_id (z := x3 - 1) (by omega) (by omega)
          have b64 : 0 ≤ (zu_w32 (x3 - 1)) ∧ (zu_w32 (x3 - 1)) < 64 := by omega
          refine zw_if b64 ?_
          generalize hmm65 : zu_up mh (a0 + 5) (zu_w32 (x3 - 1)) y0 = m65
          have hIm65 := zi_up hmm65 hImh (zc_12_4 hc0) (zb_56 _) (by omega) (by omega)
          have hFm65 := zfr_up hmm65 hFmh (zc_12_4 hc0) rfl
          have hRK54m65 := zR_K54_fr (zdis_fr (zfr_up hmm65 (zfr_rf [(56, 0)] _) (zc_12_4 hc0) rfl) rfl) hRK54mh
          have hM : (64 - x4) * 3 + 0 < (k : Int) := by omega
          exact zw_le (zu_forget (zu_lr_same (zu_lr_same (zu_lr_same (zu_lr_same (zu_lr_same (zu_lr_drop (zu_lr_same zu_lr_nil)))))))) (ih.2.2 x3 x4 m65 hIm65 hFm65 ⟨by omega, by omega⟩ ⟨by omega, by omega⟩ ⟨by omega, by omega⟩ (by omega) (by omega) hRK54m65 hM)
        · exact zw_some ⟨hImh, hFmh, hRK54mh, ⟨by omega, by omega⟩⟩
    · intro x3 x4 mh hImh hFmh hba1 hbx3 hbx4 hH0 hH1 hRK54mh hM
      refine zw_eq (zu_rega_at (zt_T n) (zm_26 n) (zdp_26 n) _ _ _ _ _ _ (zr_26_274 n _ _ a0 a1 a2 x3 x4 mh)) ?_
      have w66 := zu_w32_id (z := x4 + 1) (by omega) (by omega)
      have hM : (64 - (zu_w32 (x4 + 1))) * 3 + 2 < (k : Int) := by omega
      exact ih.1 x3 (zu_w32 (x4 + 1)) mh hImh hFmh ⟨by omega, by omega⟩ ⟨by omega, by omega⟩ ⟨by omega, by omega⟩ (by omega) (by omega) hRK54mh hM
set_option maxHeartbeats 4000000 in
theorem zk_26 (n : Nat) {a0 a1 a2 : Int} {m0 : zu_m} (hIm0 : zi_I m0) (hc0 : zcls a0 = 12) (hc2 : zcls a2 = 59) (ha1 : 0 ≤ a1 ∧ a1 ≤ 3)    (hRK54m0 : zR_K54 m0) : zw (zu_call (zt_T n) 26 [(10, a0), (0, a1), (15, a2)] m0) (fun v m => zi_I m ∧ zfr [(56, 0)] m0 m ∧ zR_K54 m ∧ ((-9223372036854775808) ≤ v ∧ v ≤ 9223372036854775807)) := by
  have hFm0 : zfr [(56, 0)] m0 m0 := zfr_rf _ _
  refine zw_eq (zu_call_at (zt_T n) (zm_26 n) (zdp_26 n) _ _ _ _ _ rfl (zr_26_0 n _ _ a0 a1 a2 m0)) ?_
  have b67 : 0 ≤ a1 ∧ a1 < 4 := by omega
  refine zw_if b67 ?_
  have r68 : (-1) ≤ (m0 (a0 + 3) a1) ∧ (m0 (a0 + 3) a1) ≤ 64 := zi_rd hIm0 (zc_12_2 hc0) (zb_54 _)
  refine zw_ite (fun h69 => ?_) (fun h69 => ?_)
  · have b70 : 0 ≤ a1 ∧ a1 < 4 := by omega
    refine zw_if b70 ?_
    have hM : (64 - (m0 (a0 + 3) a1)) * 3 + 2 < ((195 : Nat) : Int) := by omega
    exact (zl_26 n (m0 := m0) hc0 hc2 195).1 0 (m0 (a0 + 3) a1) m0 hIm0 hFm0 ⟨by omega, by omega⟩ ⟨by omega, by omega⟩ ⟨by omega, by omega⟩ (by omega) (by omega) hRK54m0 hM
  · exact zw_some ⟨hIm0, hFm0, hRK54m0, ⟨by omega, by omega⟩⟩
set_option maxHeartbeats 4000000 in
theorem zk_40 (n : Nat) {a0 a1 a2 a3 a4 a5 : Int} {m0 : zu_m} (hIm0 : zi_I m0) (hc0 : zcls a0 = 2) (ha1 : (-2147483648) ≤ a1 ∧ a1 ≤ 2147483647) (ha2 : (-2147483648) ≤ a2 ∧ a2 ≤ 2147483647) (ha3 : (-2147483648) ≤ a3 ∧ a3 ≤ 2147483647) (ha4 : (-2147483648) ≤ a4 ∧ a4 ≤ 2147483647) (ha5 : (-2147483648) ≤ a5 ∧ a5 ≤ 2147483647)     : zw (zu_call (zt_T n) 40 [(5, a0), (0, a1), (0, a2), (0, a3), (0, a4), (0, a5)] m0) (fun v m => zi_I m ∧ zfr [(2, 2), (29, 0)] m0 m ∧ ((-1) ≤ v ∧ v ≤ 700)) := by
  have hFm0 : zfr [(2, 2), (29, 0)] m0 m0 := zfr_rf _ _
  refine zw_eq (zu_call_at (zt_T n) (zm_40 n) (zdp_40 n) _ _ _ _ _ rfl (zr_40_0 n _ _ a0 a1 a2 a3 a4 a5 m0)) ?_
  have r1 : 0 ≤ (m0 a0 1) ∧ (m0 a0 1) ≤ 700 := zi_rd hIm0 hc0 zb_2_1
  refine zw_ite (fun h2 => ?_) (fun h2 => ?_)
  · refine zw_bd (zw_mono (zk_41 n hIm0 hc0 ⟨by omega, by omega⟩) (fun v4 m3 hqm3 => ?_))
    obtain ⟨hIm3, hfm3, hvm3⟩ := hqm3
    have hFm3 := zfr_tr hFm0 hfm3 rfl
    refine zw_bd (zw_mono (zk_41 n hIm3 hc0 ⟨by omega, by omega⟩) (fun v6 m5 hqm5 => ?_))
    obtain ⟨hIm5, hfm5, hvm5⟩ := hqm5
    have hFm5 := zfr_tr hFm3 hfm5 rfl
    refine zw_bd (zw_mono (zk_41 n hIm5 hc0 ⟨by omega, by omega⟩) (fun v8 m7 hqm7 => ?_))
    obtain ⟨hIm7, hfm7, hvm7⟩ := hqm7
    have hFm7 := zfr_tr hFm5 hfm7 rfl
    refine zw_bd (zw_mono (zk_41 n hIm7 hc0 ⟨by omega, by omega⟩) (fun v10 m9 hqm9 => ?_))
    obtain ⟨hIm9, hfm9, hvm9⟩ := hqm9
    have hFm9 := zfr_tr hFm7 hfm9 rfl
    refine zw_bd (zw_mono (zk_41 n hIm9 hc0 ⟨by omega, by omega⟩) (fun v12 m11 hqm11 => ?_))
    obtain ⟨hIm11, hfm11, hvm11⟩ := hqm11
    have hFm11 := zfr_tr hFm9 hfm11 rfl
    have r13 : 0 ≤ (m11 a0 1) ∧ (m11 a0 1) ≤ 700 := zi_rd hIm11 hc0 zb_2_1
    exact zw_some ⟨hIm11, hFm11, ⟨by omega, by omega⟩⟩
  · exact zw_some ⟨hIm0, hFm0, ⟨by omega, by omega⟩⟩
set_option maxHeartbeats 4000000 in
theorem zk_44 (n : Nat) {a0 a1 : Int} {m0 : zu_m} (hIm0 : zi_I m0) (hc0 : zcls a0 = 2) (ha1 : (-2147483648) ≤ a1 ∧ a1 ≤ 2147483647)     : zw (zu_call (zt_T n) 44 [(5, a0), (0, a1)] m0) (fun v m => zi_I m ∧ zfr [] m0 m ∧ ((-1) ≤ v ∧ v ≤ 3)) := by
  have hFm0 : zfr [] m0 m0 := zfr_rf _ _
  refine zw_eq (zu_call_at (zt_T n) (zm_44 n) (zdp_44 n) _ _ _ _ _ rfl (zr_44_0 n _ _ a0 a1 m0)) ?_
  refine zw_bd (zw_mono (zk_212_16 n hIm0 zq_89 ⟨by omega, by omega⟩) (fun v2 m1 hqm1 => ?_))
  obtain ⟨hIm1, hfm1, hvm1⟩ := hqm1
  have hFm1 := zfr_tr hFm0 hfm1 rfl
  exact zw_some ⟨hIm1, hFm1, ⟨by omega, by omega⟩⟩
set_option maxHeartbeats 4000000 in
theorem zk_45 (n : Nat) {a0 a1 a2 : Int} {m0 : zu_m} (hIm0 : zi_I m0) (hc0 : zcls a0 = 2) (ha1 : 0 ≤ a1 ∧ a1 ≤ 47) (ha2 : 0 ≤ a2 ∧ a2 ≤ 3)   (hxp0 : a1 < (m0 50 2))  : zw (zu_call (zt_T n) 45 [(5, a0), (0, a1), (0, a2)] m0) (fun v m => zi_I m ∧ zfr [] m0 m ∧ ((-2147483648) ≤ v ∧ v ≤ 2147483647)) := by
  have hFm0 : zfr [] m0 m0 := zfr_rf _ _
  have r1 : 1 ≤ (m0 50 2) ∧ (m0 50 2) ≤ 48 := zi_rd hIm0 zq_50 zb_11_2
  refine zw_eq (zu_call_at (zt_T n) (zm_45 n) (zdp_45 n) _ _ _ _ _ rfl (zr_45_0 n _ _ a0 a1 a2 m0)) ?_
  refine zw_bd (zw_eq (zu_call_at (zt_T n) (zm_244 n) (zdp_244 n) _ _ _ _ _ rfl (zr_244_0 n _ _ 50 a1 m0)) ?_)
  refine zw_ite (fun h2 => ?_) (fun h2 => ?_)
  · exfalso; omega
  · refine zw_ite (fun h3 => ?_) (fun h3 => ?_)
    · refine zw_b (by omega) ?_
      refine zw_some ?_
      refine zw_ite (fun h4 => ?_) (fun h4 => ?_)
      · exfalso; omega
      · exfalso; omega
    · refine zw_b (by omega) ?_
      refine zw_some ?_
      refine zw_ite (fun h5 => ?_) (fun h5 => ?_)
      · refine zw_ite (fun h6 => ?_) (fun h6 => ?_)
        · have b7 : 0 ≤ a1 ∧ a1 < 48 := by omega
          refine zw_if b7 ?_
          have r8 : 0 ≤ (m0 (50 + 3) a1) ∧ (m0 (50 + 3) a1) ≤ 3 := zi_rd hIm0 (zc_11_8 zq_50) (zb_51 _)
          exact zw_some ⟨hIm0, hFm0, ⟨by omega, by omega⟩⟩
        · refine zw_ite (fun h9 => ?_) (fun h9 => ?_)
          · refine zw_bd (zw_mono (zk_231 n hIm0 zq_89 ⟨by omega, by omega⟩) (fun v11 m10 hqm10 => ?_))
            obtain ⟨hIm10, hfm10, hvm10⟩ := hqm10
            have hFm10 := zfr_tr hFm0 hfm10 rfl
            exact zw_some ⟨hIm10, hFm10, ⟨by omega, by omega⟩⟩
          · refine zw_ite (fun h12 => ?_) (fun h12 => ?_)
            · have b13 : 0 ≤ a1 ∧ a1 < 48 := by omega
              refine zw_if b13 ?_
              have r14 : 0 ≤ (m0 (89 + 3) a1) ∧ (m0 (89 + 3) a1) ≤ 1 := zi_rd hIm0 (zc_16_5 zq_89) (zb_67 _)
              refine zw_ite (fun h15 => ?_) (fun h15 => ?_)
              · exact zw_some ⟨hIm0, hFm0, ⟨by omega, by omega⟩⟩
              · exact zw_some ⟨hIm0, hFm0, ⟨by omega, by omega⟩⟩
            · refine zw_ite (fun h16 => ?_) (fun h16 => ?_)
              · refine zw_bd (zw_mono (zk_232 n hIm0 zq_89 ⟨by omega, by omega⟩) (fun v18 m17 hqm17 => ?_))
                obtain ⟨hIm17, hfm17, hvm17⟩ := hqm17
                have hFm17 := zfr_tr hFm0 hfm17 rfl
                exact zw_some ⟨hIm17, hFm17, ⟨by omega, by omega⟩⟩
              · exfalso; omega
      · exfalso; omega
set_option maxHeartbeats 4000000 in
theorem zk_46 (n : Nat) {a0 a1 a2 : Int} {m0 : zu_m} (hIm0 : zi_I m0) (hc0 : zcls a0 = 2) (ha1 : (-2147483648) ≤ a1 ∧ a1 ≤ 2147483647) (ha2 : (-2147483648) ≤ a2 ∧ a2 ≤ 2147483647)     : zw (zu_call (zt_T n) 46 [(5, a0), (0, a1), (0, a2)] m0) (fun v m => zi_I m ∧ zfr [] m0 m ∧ ((-4) ≤ v ∧ v ≤ 47)) := by
  have hFm0 : zfr [] m0 m0 := zfr_rf _ _
  refine zw_eq (zu_call_at (zt_T n) (zm_46 n) (zdp_46 n) _ _ _ _ _ rfl (zr_46_0 n _ _ a0 a1 a2 m0)) ?_
  refine zw_bd (zw_eq (zu_call_at (zt_T n) (zm_210 n) (zdp_210 n) _ _ _ _ _ rfl (zr_210_0 n _ _ 89 a1 m0)) ?_)
  refine zw_ite (fun h1 => ?_) (fun h1 => ?_)
  · refine zw_b (by omega) ?_
    refine zw_some ?_
    refine zw_ite (fun h2 => ?_) (fun h2 => ?_)
    · exfalso; omega
    · exact zw_some ⟨hIm0, hFm0, ⟨by omega, by omega⟩⟩
  · have r3 : 0 ≤ (m0 89 2) ∧ (m0 89 2) ≤ 16 := zi_rd hIm0 zq_89 zb_16_2
    refine zw_ite (fun h4 => ?_) (fun h4 => ?_)
    · refine zw_b (by omega) ?_
      refine zw_some ?_
      refine zw_ite (fun h5 => ?_) (fun h5 => ?_)
      · exfalso; omega
      · exact zw_some ⟨hIm0, hFm0, ⟨by omega, by omega⟩⟩
    · refine zw_b (by omega) ?_
      refine zw_some ?_
      refine zw_ite (fun h6 => ?_) (fun h6 => ?_)
      · have b7 : 0 ≤ a1 ∧ a1 < 16 := by omega
        refine zw_if b7 ?_
        refine zw_ite (fun h8 => ?_) (fun h8 => ?_)
        · have r9 : 0 ≤ (m0 ((89 + 1) + 5 + a1) 0) ∧ (m0 ((89 + 1) + 5 + a1) 0) ≤ 47 := zi_rd hIm0 (zc_65_e (zc_16_1 zq_89) b7) zb_17_0
          exact zw_some ⟨hIm0, hFm0, ⟨by omega, by omega⟩⟩
        · refine zw_ite (fun h10 => ?_) (fun h10 => ?_)
          · have r11 : 0 ≤ (m0 ((89 + 1) + 5 + a1) 1) ∧ (m0 ((89 + 1) + 5 + a1) 1) ≤ 3 := zi_rd hIm0 (zc_65_e (zc_16_1 zq_89) b7) zb_17_1
            exact zw_some ⟨hIm0, hFm0, ⟨by omega, by omega⟩⟩
          · refine zw_ite (fun h12 => ?_) (fun h12 => ?_)
            · have r13 : 0 ≤ (m0 ((89 + 1) + 5 + a1) 2) ∧ (m0 ((89 + 1) + 5 + a1) 2) ≤ 9 := zi_rd hIm0 (zc_65_e (zc_16_1 zq_89) b7) zb_17_2
              exact zw_some ⟨hIm0, hFm0, ⟨by omega, by omega⟩⟩
            · refine zw_ite (fun h14 => ?_) (fun h14 => ?_)
              · have r15 : (-3) ≤ (m0 ((89 + 1) + 5 + a1) 3) ∧ (m0 ((89 + 1) + 5 + a1) 3) ≤ 3 := zi_rd hIm0 (zc_65_e (zc_16_1 zq_89) b7) zb_17_3
                exact zw_some ⟨hIm0, hFm0, ⟨by omega, by omega⟩⟩
              · exact zw_some ⟨hIm0, hFm0, ⟨by omega, by omega⟩⟩
      · exfalso; omega
set_option maxHeartbeats 4000000 in
theorem zk_58 (n : Nat) {a0 a1 : Int} {m0 : zu_m} (hIm0 : zi_I m0) (hc0 : zcls a0 = 2) (ha1 : (-2147483648) ≤ a1 ∧ a1 ≤ 2147483647)     : zw (zu_call (zt_T n) 58 [(5, a0), (0, a1)] m0) (fun v m => zi_I m ∧ zfr [] m0 m ∧ ((-1) ≤ v ∧ v ≤ 999000)) := by
  have hFm0 : zfr [] m0 m0 := zfr_rf _ _
  refine zw_eq (zu_call_at (zt_T n) (zm_58 n) (zdp_58 n) _ _ _ _ _ rfl (zr_58_0 n _ _ a0 a1 m0)) ?_
  refine zw_bd (zw_eq (zu_call_at (zt_T n) (zm_244 n) (zdp_244 n) _ _ _ _ _ rfl (zr_244_0 n _ _ 50 a1 m0)) ?_)
  refine zw_ite (fun h1 => ?_) (fun h1 => ?_)
  · refine zw_b (by omega) ?_
    refine zw_some ?_
    refine zw_ite (fun h2 => ?_) (fun h2 => ?_)
    · exact zw_some ⟨hIm0, hFm0, ⟨by omega, by omega⟩⟩
    · exfalso; omega
  · have r3 : 1 ≤ (m0 50 2) ∧ (m0 50 2) ≤ 48 := zi_rd hIm0 zq_50 zb_11_2
    refine zw_ite (fun h4 => ?_) (fun h4 => ?_)
    · refine zw_b (by omega) ?_
      refine zw_some ?_
      refine zw_ite (fun h5 => ?_) (fun h5 => ?_)
      · exact zw_some ⟨hIm0, hFm0, ⟨by omega, by omega⟩⟩
      · exfalso; omega
    · refine zw_b (by omega) ?_
      refine zw_some ?_
      refine zw_ite (fun h6 => ?_) (fun h6 => ?_)
      · exfalso; omega
      · have b7 : 0 ≤ a1 ∧ a1 < 48 := by omega
        refine zw_if b7 ?_
        have r8 : 0 ≤ (m0 (89 + 4) a1) ∧ (m0 (89 + 4) a1) ≤ 999000 := zi_rd hIm0 (zc_16_6 zq_89) (zb_68 _)
        exact zw_some ⟨hIm0, hFm0, ⟨by omega, by omega⟩⟩
set_option maxHeartbeats 4000000 in
theorem zk_72 (n : Nat) {a0 a1 a2 a3 a4 : Int} {m0 : zu_m} (hIm0 : zi_I m0) (hc0 : zcls a0 = 2) (ha1 : (-2147483648) ≤ a1 ∧ a1 ≤ 2147483647) (ha2 : (-2147483648) ≤ a2 ∧ a2 ≤ 2147483647) (ha3 : (-2147483648) ≤ a3 ∧ a3 ≤ 2147483647) (ha4 : 0 ≤ a4 ∧ a4 ≤ 1)     : zw (zu_call (zt_T n) 72 [(5, a0), (0, a1), (0, a2), (0, a3), (0, a4)] m0) (fun v m => zi_I m ∧ zfr [(22, 7), (75, 0), (76, 0), (77, 0), (78, 0), (79, 0)] m0 m ∧ ((-1) ≤ v ∧ v ≤ 23)) := by
  have hFm0 : zfr [(22, 7), (75, 0), (76, 0), (77, 0), (78, 0), (79, 0)] m0 m0 := zfr_rf _ _
  refine zw_eq (zu_call_at (zt_T n) (zm_72 n) (zdp_72 n) _ _ _ _ _ rfl (zr_72_0 n _ _ a0 a1 a2 a3 a4 m0)) ?_
  refine zw_bd (zw_eq (zu_call_at (zt_T n) (zm_53 n) (zdp_53 n) _ _ _ _ _ rfl (zr_53_0 n _ _ a1 m0)) ?_)
  refine zw_ite (fun h1 => ?_) (fun h1 => ?_)
  · refine zw_b (by omega) ?_
    refine zw_some ?_
    refine zw_ite (fun h2 => ?_) (fun h2 => ?_)
    · exact zw_some ⟨hIm0, hFm0, ⟨by omega, by omega⟩⟩
    · exfalso; omega
  · refine zw_ite (fun h3 => ?_) (fun h3 => ?_)
    · refine zw_b (by omega) ?_
      refine zw_some ?_
      refine zw_ite (fun h4 => ?_) (fun h4 => ?_)
      · exact zw_some ⟨hIm0, hFm0, ⟨by omega, by omega⟩⟩
      · exfalso; omega
    · refine zw_b (by omega) ?_
      refine zw_some ?_
      refine zw_ite (fun h5 => ?_) (fun h5 => ?_)
      · exfalso; omega
      · refine zw_bd (zw_eq (zu_call_at (zt_T n) (zm_211 n) (zdp_211 n) _ _ _ _ _ rfl (zr_211_0 n _ _ 89 a2 m0)) ?_)
        refine zw_ite (fun h6 => ?_) (fun h6 => ?_)
        · refine zw_b (by omega) ?_
          refine zw_some ?_
          refine zw_ite (fun h7 => ?_) (fun h7 => ?_)
          · exact zw_some ⟨hIm0, hFm0, ⟨by omega, by omega⟩⟩
          · exfalso; omega
        · have r8 : 0 ≤ (m0 89 4) ∧ (m0 89 4) ≤ 4 := zi_rd hIm0 zq_89 zb_16_4
          refine zw_ite (fun h9 => ?_) (fun h9 => ?_)
          · refine zw_b (by omega) ?_
            refine zw_some ?_
            refine zw_ite (fun h10 => ?_) (fun h10 => ?_)
            · exact zw_some ⟨hIm0, hFm0, ⟨by omega, by omega⟩⟩
            · exfalso; omega
          · refine zw_b (by omega) ?_
            refine zw_some ?_
            refine zw_ite (fun h11 => ?_) (fun h11 => ?_)
            · exfalso; omega
            · refine zw_ite (fun h12 => ?_) (fun h12 => ?_)
              · exact zw_some ⟨hIm0, hFm0, ⟨by omega, by omega⟩⟩
              · refine zw_ite (fun h13 => ?_) (fun h13 => ?_)
                · refine zw_bd (zw_mono (zk_272 n hIm0 zq_141 ⟨by omega, by omega⟩ ⟨by omega, by omega⟩ ⟨by omega, by omega⟩ ⟨by omega, by omega⟩) (fun v15 m14 hqm14 => ?_))
                  obtain ⟨hIm14, hfm14, hvm14⟩ := hqm14
                  have hFm14 := zfr_tr hFm0 hfm14 rfl
                  exact zw_some ⟨hIm14, hFm14, ⟨by omega, by omega⟩⟩
                · exact zw_some ⟨hIm0, hFm0, ⟨by omega, by omega⟩⟩
set_option maxHeartbeats 4000000 in
theorem zk_73 (n : Nat) {a0 a1 : Int} {m0 : zu_m} (hIm0 : zi_I m0) (hc0 : zcls a0 = 2) (ha1 : (-2147483648) ≤ a1 ∧ a1 ≤ 2147483647)     : zw (zu_call (zt_T n) 73 [(5, a0), (0, a1)] m0) (fun v m => zi_I m ∧ zfr [(22, 7), (79, 0)] m0 m ∧ ((-1) ≤ v ∧ v ≤ 23)) := by
  have hFm0 : zfr [(22, 7), (79, 0)] m0 m0 := zfr_rf _ _
  refine zw_eq (zu_call_at (zt_T n) (zm_73 n) (zdp_73 n) _ _ _ _ _ rfl (zr_73_0 n _ _ a0 a1 m0)) ?_
  refine zw_bd (zw_mono (zk_273 n hIm0 zq_141 ⟨by omega, by omega⟩) (fun v2 m1 hqm1 => ?_))
  obtain ⟨hIm1, hfm1, hvm1⟩ := hqm1
  have hFm1 := zfr_tr hFm0 hfm1 rfl
  exact zw_some ⟨hIm1, hFm1, ⟨by omega, by omega⟩⟩
set_option maxHeartbeats 4000000 in
theorem zl_89 (n : Nat) {a0 : Int} {m0 : zu_m} (hc0 : zcls a0 = 28)   : ∀ k : Nat, (∀ (mh : zu_m), zi_I mh → zfr [(28, 8), (28, 9), (28, 10), (28, 11)] m0 mh → ((m0 a0 7) ≤ (mh a0 7)) → (zR_NS mh) → (zR_WD mh) → (700 - (mh a0 7)) * 1 + 1402 < (k : Int) → zw (zu_ex (zt_T n) 89 0 [(40, a0)] [] mh) (fun v m => zi_I m ∧ zfr [(28, 8), (28, 9), (28, 10), (28, 11)] m0 m ∧ zR_NS m ∧ zR_TR m ∧ zR_WD m ∧ True ∧ ((m0 a0 7) ≤ (m a0 7)) ∧ ((m a0 8) = 0 ∨ (m0 a0 7) < (m a0 7)))) ∧ (∀ (mh : zu_m), zi_I mh → zfr [(28, 8), (28, 9), (28, 10), (28, 11)] m0 mh → (0 ≤ mh a0 10 ∧ mh a0 10 ≤ 699) → (1 ≤ mh a0 6 ∧ mh a0 6 ≤ 700) → ((m0 a0 7) ≤ (mh a0 7)) → ((mh a0 10) = (mh a0 7) → ((mh a0 7) < (mh a0 6))) → (zR_NS mh) → (zR_WD mh) → (700 - (mh a0 7)) * 1 + 701 < (k : Int) → zw (zu_ex (zt_T n) 89 90 [(40, a0)] [] mh) (fun v m => zi_I m ∧ zfr [(28, 8), (28, 9), (28, 10), (28, 11)] m0 m ∧ zR_NS m ∧ zR_TR m ∧ zR_WD m ∧ True ∧ ((m0 a0 7) ≤ (m a0 7)) ∧ ((m a0 8) = 0 ∨ (m0 a0 7) < (m a0 7)))) ∧ (∀ (mh : zu_m), zi_I mh → zfr [(28, 8), (28, 9), (28, 10), (28, 11)] m0 mh → (0 ≤ mh a0 10 ∧ mh a0 10 ≤ 699) → (1 ≤ mh a0 6 ∧ mh a0 6 ≤ 700) → (3 ≤ mh a0 8 ∧ mh a0 8 ≤ 3) → (0 ≤ mh a0 9 ∧ mh a0 9 ≤ 999999) → ((m0 a0 7) ≤ (mh a0 7)) → ((mh a0 8) = 3) → (0 ≤ (mh a0 9)) → (zR_NS mh) → (zR_WD mh) → (700 - (mh a0 7)) * 1 + 0 < (k : Int) → zw (zu_ex (zt_T n) 89 213 [(40, a0)] [] mh) (fun v m => zi_I m ∧ zfr [(28, 8), (28, 9), (28, 10), (28, 11)] m0 m ∧ zR_NS m ∧ zR_TR m ∧ zR_WD m ∧ True ∧ ((m0 a0 7) ≤ (m a0 7)) ∧ ((m a0 8) = 0 ∨ (m0 a0 7) < (m a0 7)))) := by
  intro k
  induction k with
  | zero => exact ⟨fun mh hImh hFmh hH0 hRNSmh hRWDmh hM => by exfalso; omega, fun mh hImh hFmh hg0 hg1 hH0 hH1 hRNSmh hRWDmh hM => by exfalso; omega, fun mh hImh hFmh hg0 hg1 hg2 hg3 hH0 hH1 hH2 hRNSmh hRWDmh hM => by exfalso; omega⟩
  | succ k ih =>
    refine ⟨?_, ?_, ?_⟩
    · intro mh hImh hFmh hH0 hRNSmh hRWDmh hM
      refine zw_eq (zu_rega_at (zt_T n) (zm_89 n) (zdp_89 n) _ _ _ _ _ _ (zr_89_0 n _ _ a0 mh)) ?_
      have r1 : 0 ≤ (mh a0 7) ∧ (mh a0 7) ≤ 700 := zi_rd hImh hc0 zb_28_7
      have s2 := hRNSmh a0 hc0
      have r3 : 0 ≤ (mh a0 6) ∧ (mh a0 6) ≤ 700 := zi_rd hImh hc0 zb_28_6
      refine zw_ite (fun h4 => ?_) (fun h4 => ?_)
      · generalize hmm5 : zu_up mh a0 10 (mh a0 7) = m5
        have hIm5 := zi_up hmm5 hImh hc0 zb_28_10 (by omega) (by omega)
        have hFm5 := zfr_up hmm5 hFmh hc0 rfl
        have hRNSm5 := zR_NS_fr (zdis_fr (zfr_up hmm5 (zfr_rf [(28, 11)] _) hc0 rfl) rfl) hRNSmh
        have hRWDm5 := zR_WD_fr (zdis_fr (zfr_up hmm5 (zfr_rf [(28, 11)] _) hc0 rfl) rfl) hRWDmh
        have r6 : 0 ≤ (m5 a0 7) ∧ (m5 a0 7) ≤ 700 := zi_rd hIm5 hc0 zb_28_7
        have e7 : (m5 a0 7) = (mh a0 7) := (zs_ne hmm5 (Or.inr (by decide)))
        have r8 : 0 ≤ (m5 a0 6) ∧ (m5 a0 6) ≤ 700 := zi_rd hIm5 hc0 zb_28_6
        have e9 : (m5 a0 6) = (mh a0 6) := (zs_ne hmm5 (Or.inr (by decide)))
        refine zw_ite (fun h10 => ?_) (fun h10 => ?_)
        · exfalso; omega
        · generalize hmm11 : zu_up m5 a0 8 0 = m11
          have hIm11 := zi_up hmm11 hIm5 hc0 zb_28_8 (by omega) (by omega)
          have hFm11 := zfr_up hmm11 hFm5 hc0 rfl
          have hRNSm11 := zR_NS_fr (zdis_fr (zfr_up hmm11 (zfr_rf [(28, 9)] _) hc0 rfl) rfl) hRNSm5
          have hRWDm11 := zR_WD_fr (zdis_fr (zfr_up hmm11 (zfr_rf [(28, 9)] _) hc0 rfl) rfl) hRWDm5
          have r12 : 0 ≤ (m11 a0 8) ∧ (m11 a0 8) ≤ 6 := zi_rd hIm11 hc0 zb_28_8
          have e13 : (m11 a0 8) = 0 := (zs_eq hmm11)
          have r14 : (-2147483648) ≤ (m11 a0 9) ∧ (m11 a0 9) ≤ 2147483647 := zi_rd hIm11 hc0 zb_28_9
          have hRTRm11 := zR_TR_of hc0 (show (m11 a0 8 = 5 → (0 ≤ m11 a0 9 ∧ m11 a0 9 ≤ 5)) ∧ (m11 a0 8 = 1 → (0 ≤ m11 a0 9 ∧ m11 a0 9 ≤ 32)) ∧ (m11 a0 8 = 3 → 0 ≤ m11 a0 9) by omega)
          have r15 : 0 ≤ (m11 a0 7) ∧ (m11 a0 7) ≤ 700 := zi_rd hIm11 hc0 zb_28_7
          have e16 : (m11 a0 7) = (m5 a0 7) := (zs_ne hmm11 (Or.inr (by decide)))
          exact zw_some ⟨hIm11, hFm11, hRNSm11, hRTRm11, hRWDm11, trivial, by omega, by omega⟩
      · have b17 : 0 ≤ (mh a0 7) ∧ (mh a0 7) < 700 := by omega
        refine zw_if b17 ?_
        have r18 : (-2147483648) ≤ (mh 191 (mh a0 7)) ∧ (mh 191 (mh a0 7)) ≤ 2147483647 := zi_rd hImh zq_191 (zb_100 _)
        refine zw_ite (fun h19 => ?_) (fun h19 => ?_)
        · have w20 := zu_w32_id (z := (mh a0 7) + 1) (by omega) (by omega)
          generalize hmm21 : zu_up mh a0 7 (zu_w32 ((mh a0 7) + 1)) = m21
          have hIm21 := zi_up hmm21 hImh hc0 zb_28_7 (by omega) (by omega)
          have hFm21 := zfr_up hmm21 hFmh hc0 rfl
          have hRWDm21 := zR_WD_fr (zdis_fr (zfr_up hmm21 (zfr_rf [(28, 8)] _) hc0 rfl) rfl) hRWDmh
          have r22 : 0 ≤ (m21 a0 7) ∧ (m21 a0 7) ≤ 700 := zi_rd hIm21 hc0 zb_28_7
          have e23 : (m21 a0 7) = (zu_w32 ((mh a0 7) + 1)) := (zs_eq hmm21)
          have r24 : 0 ≤ (m21 a0 6) ∧ (m21 a0 6) ≤ 700 := zi_rd hIm21 hc0 zb_28_6
          have e25 : (m21 a0 6) = (mh a0 6) := (zs_ne hmm21 (Or.inr (by decide)))
          have hRNSm21 := zR_NS_of hc0 (show m21 a0 7 ≤ m21 a0 6 by omega)
          have hM : (700 - (m21 a0 7)) * 1 + 1402 < (k : Int) := by omega
          exact ih.1  m21 hIm21 hFm21 (by omega) hRNSm21 hRWDm21 hM
        · have b26 : 0 ≤ (mh a0 7) ∧ (mh a0 7) < 700 := by omega
          refine zw_if b26 ?_
          refine zw_ite (fun h27 => ?_) (fun h27 => ?_)
          · generalize hmm28 : zu_up mh a0 10 (mh a0 7) = m28
            have hIm28 := zi_up hmm28 hImh hc0 zb_28_10 (by omega) (by omega)
            have hFm28 := zfr_up hmm28 hFmh hc0 rfl
            have hRNSm28 := zR_NS_fr (zdis_fr (zfr_up hmm28 (zfr_rf [(28, 11)] _) hc0 rfl) rfl) hRNSmh
            have hRWDm28 := zR_WD_fr (zdis_fr (zfr_up hmm28 (zfr_rf [(28, 11)] _) hc0 rfl) rfl) hRWDmh
            have r29 : 0 ≤ (m28 a0 7) ∧ (m28 a0 7) ≤ 700 := zi_rd hIm28 hc0 zb_28_7
            have e30 : (m28 a0 7) = (mh a0 7) := (zs_ne hmm28 (Or.inr (by decide)))
            have r31 : 0 ≤ (m28 a0 6) ∧ (m28 a0 6) ≤ 700 := zi_rd hIm28 hc0 zb_28_6
            have e32 : (m28 a0 6) = (mh a0 6) := (zs_ne hmm28 (Or.inr (by decide)))
            refine zw_ite (fun h33 => ?_) (fun h33 => ?_)
            · refine zw_bd (zw_eq (zu_call_at (zt_T n) (zm_87 n) (zdp_87 n) _ _ _ _ _ rfl (zr_87_0 n _ _ a0 (m28 a0 7) m28)) ?_)
              refine zw_ite (fun h34 => ?_) (fun h34 => ?_)
              · refine zw_b (by omega) ?_
                refine zw_some ?_
                refine zw_ite (fun h35 => ?_) (fun h35 => ?_)
                · refine zw_bd (zw_eq (zu_call_at (zt_T n) (zm_88 n) (zdp_88 n) _ _ _ _ _ rfl (zr_88_0 n _ _ a0 (m28 a0 7) m28)) ?_)
                  refine zw_ite (fun h36 => ?_) (fun h36 => ?_)
                  · refine zw_b (by omega) ?_
                    refine zw_some ?_
                    refine zw_ite (fun h37 => ?_) (fun h37 => ?_)
                    · refine zw_bd (zw_mono (zk_90 n hIm28 hc0 ⟨by omega, by omega⟩ ⟨by omega, by omega⟩ (by omega) hRNSm28) (fun v39 m38 hqm38 => ?_))
                      obtain ⟨hIm38, hfm38, hvm38⟩ := hqm38
                      have hFm38 := zfr_tr hFm28 hfm38 rfl
                      obtain ⟨hRNSm38, hvm38⟩ := hvm38
                      have hRWDm38 := zR_WD_fr (zdis_fr hfm38 rfl) hRWDm28
                      have s40 := hRNSm38 a0 hc0
                      have r41 : 0 ≤ (m38 a0 8) ∧ (m38 a0 8) ≤ 6 := zi_rd hIm38 hc0 zb_28_8
                      have r42 : (-2147483648) ≤ (m38 a0 9) ∧ (m38 a0 9) ≤ 2147483647 := zi_rd hIm38 hc0 zb_28_9
                      have hRTRm38 := zR_TR_of hc0 (show (m38 a0 8 = 5 → (0 ≤ m38 a0 9 ∧ m38 a0 9 ≤ 5)) ∧ (m38 a0 8 = 1 → (0 ≤ m38 a0 9 ∧ m38 a0 9 ≤ 32)) ∧ (m38 a0 8 = 3 → 0 ≤ m38 a0 9) by omega)
                      exact zw_some ⟨hIm38, hFm38, hRNSm38, hRTRm38, hRWDm38, trivial, by omega, by omega⟩
                    · exfalso; omega
                  · exfalso; omega
                · exfalso; omega
              · have b43 : 0 ≤ (m28 a0 7) ∧ (m28 a0 7) < 700 := by omega
                refine zw_if b43 ?_
                have r44 : (-2147483648) ≤ (m28 191 (m28 a0 7)) ∧ (m28 191 (m28 a0 7)) ≤ 2147483647 := zi_rd hIm28 zq_191 (zb_100 _)
                refine zw_ite (fun h45 => ?_) (fun h45 => ?_)
                · refine zw_b (by omega) ?_
                  refine zw_some ?_
                  refine zw_ite (fun h46 => ?_) (fun h46 => ?_)
                  · refine zw_bd (zw_eq (zu_call_at (zt_T n) (zm_88 n) (zdp_88 n) _ _ _ _ _ rfl (zr_88_0 n _ _ a0 (m28 a0 7) m28)) ?_)
                    refine zw_ite (fun h47 => ?_) (fun h47 => ?_)
                    · refine zw_b (by omega) ?_
                      refine zw_some ?_
                      refine zw_ite (fun h48 => ?_) (fun h48 => ?_)
                      · refine zw_bd (zw_mono (zk_90 n hIm28 hc0 ⟨by omega, by omega⟩ ⟨by omega, by omega⟩ (by omega) hRNSm28) (fun v50 m49 hqm49 => ?_))
                        obtain ⟨hIm49, hfm49, hvm49⟩ := hqm49
                        have hFm49 := zfr_tr hFm28 hfm49 rfl
                        obtain ⟨hRNSm49, hvm49⟩ := hvm49
                        have hRWDm49 := zR_WD_fr (zdis_fr hfm49 rfl) hRWDm28
                        have s51 := hRNSm49 a0 hc0
                        have r52 : 0 ≤ (m49 a0 8) ∧ (m49 a0 8) ≤ 6 := zi_rd hIm49 hc0 zb_28_8
                        have r53 : (-2147483648) ≤ (m49 a0 9) ∧ (m49 a0 9) ≤ 2147483647 := zi_rd hIm49 hc0 zb_28_9
                        have hRTRm49 := zR_TR_of hc0 (show (m49 a0 8 = 5 → (0 ≤ m49 a0 9 ∧ m49 a0 9 ≤ 5)) ∧ (m49 a0 8 = 1 → (0 ≤ m49 a0 9 ∧ m49 a0 9 ≤ 32)) ∧ (m49 a0 8 = 3 → 0 ≤ m49 a0 9) by omega)
                        exact zw_some ⟨hIm49, hFm49, hRNSm49, hRTRm49, hRWDm49, trivial, by omega, by omega⟩
                      · exfalso; omega
                    · have b54 : 0 ≤ (m28 a0 7) ∧ (m28 a0 7) < 700 := by omega
                      refine zw_if b54 ?_
                      refine zw_ite (fun h55 => ?_) (fun h55 => ?_)
                      · refine zw_b (by omega) ?_
                        refine zw_some ?_
                        refine zw_ite (fun h56 => ?_) (fun h56 => ?_)
                        · refine zw_bd (zw_mono (zk_90 n hIm28 hc0 ⟨by omega, by omega⟩ ⟨by omega, by omega⟩ (by omega) hRNSm28) (fun v58 m57 hqm57 => ?_))
                          obtain ⟨hIm57, hfm57, hvm57⟩ := hqm57
                          have hFm57 := zfr_tr hFm28 hfm57 rfl
                          obtain ⟨hRNSm57, hvm57⟩ := hvm57
                          have hRWDm57 := zR_WD_fr (zdis_fr hfm57 rfl) hRWDm28
                          have s59 := hRNSm57 a0 hc0
                          have r60 : 0 ≤ (m57 a0 8) ∧ (m57 a0 8) ≤ 6 := zi_rd hIm57 hc0 zb_28_8
                          have r61 : (-2147483648) ≤ (m57 a0 9) ∧ (m57 a0 9) ≤ 2147483647 := zi_rd hIm57 hc0 zb_28_9
                          have hRTRm57 := zR_TR_of hc0 (show (m57 a0 8 = 5 → (0 ≤ m57 a0 9 ∧ m57 a0 9 ≤ 5)) ∧ (m57 a0 8 = 1 → (0 ≤ m57 a0 9 ∧ m57 a0 9 ≤ 32)) ∧ (m57 a0 8 = 3 → 0 ≤ m57 a0 9) by omega)
                          exact zw_some ⟨hIm57, hFm57, hRNSm57, hRTRm57, hRWDm57, trivial, by omega, by omega⟩
                        · exfalso; omega
                      · have b62 : 0 ≤ (m28 a0 7) ∧ (m28 a0 7) < 700 := by omega
                        refine zw_if b62 ?_
                        refine zw_ite (fun h63 => ?_) (fun h63 => ?_)
                        · refine zw_b (by omega) ?_
                          refine zw_some ?_
                          refine zw_ite (fun h64 => ?_) (fun h64 => ?_)
                          · refine zw_bd (zw_mono (zk_90 n hIm28 hc0 ⟨by omega, by omega⟩ ⟨by omega, by omega⟩ (by omega) hRNSm28) (fun v66 m65 hqm65 => ?_))
                            obtain ⟨hIm65, hfm65, hvm65⟩ := hqm65
                            have hFm65 := zfr_tr hFm28 hfm65 rfl
                            obtain ⟨hRNSm65, hvm65⟩ := hvm65
                            have hRWDm65 := zR_WD_fr (zdis_fr hfm65 rfl) hRWDm28
                            have s67 := hRNSm65 a0 hc0
                            have r68 : 0 ≤ (m65 a0 8) ∧ (m65 a0 8) ≤ 6 := zi_rd hIm65 hc0 zb_28_8
                            have r69 : (-2147483648) ≤ (m65 a0 9) ∧ (m65 a0 9) ≤ 2147483647 := zi_rd hIm65 hc0 zb_28_9
                            have hRTRm65 := zR_TR_of hc0 (show (m65 a0 8 = 5 → (0 ≤ m65 a0 9 ∧ m65 a0 9 ≤ 5)) ∧ (m65 a0 8 = 1 → (0 ≤ m65 a0 9 ∧ m65 a0 9 ≤ 32)) ∧ (m65 a0 8 = 3 → 0 ≤ m65 a0 9) by omega)
                            exact zw_some ⟨hIm65, hFm65, hRNSm65, hRTRm65, hRWDm65, trivial, by omega, by omega⟩
                          · exfalso; omega
                        · refine zw_b (by omega) ?_
                          refine zw_some ?_
                          refine zw_ite (fun h70 => ?_) (fun h70 => ?_)
                          · exfalso; omega
                          · generalize hmm71 : zu_up m28 a0 8 3 = m71
                            have hIm71 := zi_up hmm71 hIm28 hc0 zb_28_8 (by omega) (by omega)
                            have hFm71 := zfr_up hmm71 hFm28 hc0 rfl
                            have hRNSm71 := zR_NS_fr (zdis_fr (zfr_up hmm71 (zfr_rf [(28, 9)] _) hc0 rfl) rfl) hRNSm28
                            have hRWDm71 := zR_WD_fr (zdis_fr (zfr_up hmm71 (zfr_rf [(28, 9)] _) hc0 rfl) rfl) hRWDm28
                            generalize hmm72 : zu_up m71 a0 9 0 = m72
                            have hIm72 := zi_up hmm72 hIm71 hc0 zb_28_9 (by omega) (by omega)
                            have hFm72 := zfr_up hmm72 hFm71 hc0 rfl
                            have hRNSm72 := zR_NS_fr (zdis_fr (zfr_up hmm72 (zfr_rf [(28, 10)] _) hc0 rfl) rfl) hRNSm71
                            have hRWDm72 := zR_WD_fr (zdis_fr (zfr_up hmm72 (zfr_rf [(28, 10)] _) hc0 rfl) rfl) hRWDm71
                            have r73 : 0 ≤ (m72 a0 6) ∧ (m72 a0 6) ≤ 700 := zi_rd hIm72 hc0 zb_28_6
                            have e74 : (m72 a0 6) = (m28 a0 6) := (Eq.trans (zs_ne hmm72 (Or.inr (by decide))) (zs_ne hmm71 (Or.inr (by decide))))
                            have r75 : 0 ≤ (m72 a0 10) ∧ (m72 a0 10) ≤ 700 := zi_rd hIm72 hc0 zb_28_10
                            have e76 : (m72 a0 10) = (mh a0 7) := (Eq.trans (zs_ne hmm72 (Or.inr (by decide))) (Eq.trans (zs_ne hmm71 (Or.inr (by decide))) (zs_eq hmm28)))
                            have r77 : 0 ≤ (m72 a0 8) ∧ (m72 a0 8) ≤ 6 := zi_rd hIm72 hc0 zb_28_8
                            have e78 : (m72 a0 8) = 3 := (Eq.trans (zs_ne hmm72 (Or.inr (by decide))) (zs_eq hmm71))
                            have r79 : (-2147483648) ≤ (m72 a0 9) ∧ (m72 a0 9) ≤ 2147483647 := zi_rd hIm72 hc0 zb_28_9
                            have e80 : (m72 a0 9) = 0 := (zs_eq hmm72)
                            have r81 : 0 ≤ (m72 a0 7) ∧ (m72 a0 7) ≤ 700 := zi_rd hIm72 hc0 zb_28_7
                            have e82 : (m72 a0 7) = (m28 a0 7) := (Eq.trans (zs_ne hmm72 (Or.inr (by decide))) (zs_ne hmm71 (Or.inr (by decide))))
                            have hM : (700 - (m72 a0 7)) * 1 + 0 < (k : Int) := by omega
                            exact ih.2.2  m72 hIm72 hFm72 ⟨by omega, by omega⟩ ⟨by omega, by omega⟩ ⟨by omega, by omega⟩ ⟨by omega, by omega⟩ (by omega) (by omega) (by omega) hRNSm72 hRWDm72 hM
                  · exfalso; omega
                · have b83 : 0 ≤ (m28 a0 7) ∧ (m28 a0 7) < 700 := by omega
                  refine zw_if b83 ?_
                  refine zw_ite (fun h84 => ?_) (fun h84 => ?_)
                  · refine zw_b (by omega) ?_
                    refine zw_some ?_
                    refine zw_ite (fun h85 => ?_) (fun h85 => ?_)
                    · refine zw_bd (zw_eq (zu_call_at (zt_T n) (zm_88 n) (zdp_88 n) _ _ _ _ _ rfl (zr_88_0 n _ _ a0 (m28 a0 7) m28)) ?_)
                      refine zw_ite (fun h86 => ?_) (fun h86 => ?_)
                      · refine zw_b (by omega) ?_
                        refine zw_some ?_
                        refine zw_ite (fun h87 => ?_) (fun h87 => ?_)
                        · refine zw_bd (zw_mono (zk_90 n hIm28 hc0 ⟨by omega, by omega⟩ ⟨by omega, by omega⟩ (by omega) hRNSm28) (fun v89 m88 hqm88 => ?_))
                          obtain ⟨hIm88, hfm88, hvm88⟩ := hqm88
                          have hFm88 := zfr_tr hFm28 hfm88 rfl
                          obtain ⟨hRNSm88, hvm88⟩ := hvm88
                          have hRWDm88 := zR_WD_fr (zdis_fr hfm88 rfl) hRWDm28
                          have s90 := hRNSm88 a0 hc0
                          have r91 : 0 ≤ (m88 a0 8) ∧ (m88 a0 8) ≤ 6 := zi_rd hIm88 hc0 zb_28_8
                          have r92 : (-2147483648) ≤ (m88 a0 9) ∧ (m88 a0 9) ≤ 2147483647 := zi_rd hIm88 hc0 zb_28_9
                          have hRTRm88 := zR_TR_of hc0 (show (m88 a0 8 = 5 → (0 ≤ m88 a0 9 ∧ m88 a0 9 ≤ 5)) ∧ (m88 a0 8 = 1 → (0 ≤ m88 a0 9 ∧ m88 a0 9 ≤ 32)) ∧ (m88 a0 8 = 3 → 0 ≤ m88 a0 9) by omega)
                          exact zw_some ⟨hIm88, hFm88, hRNSm88, hRTRm88, hRWDm88, trivial, by omega, by omega⟩
                        · exfalso; omega
                      · have b93 : 0 ≤ (m28 a0 7) ∧ (m28 a0 7) < 700 := by omega
                        refine zw_if b93 ?_
                        refine zw_ite (fun h94 => ?_) (fun h94 => ?_)
                        · exfalso; omega
                        · have b95 : 0 ≤ (m28 a0 7) ∧ (m28 a0 7) < 700 := by omega
                          refine zw_if b95 ?_
                          refine zw_ite (fun h96 => ?_) (fun h96 => ?_)
                          · refine zw_b (by omega) ?_
                            refine zw_some ?_
                            refine zw_ite (fun h97 => ?_) (fun h97 => ?_)
                            · refine zw_bd (zw_mono (zk_90 n hIm28 hc0 ⟨by omega, by omega⟩ ⟨by omega, by omega⟩ (by omega) hRNSm28) (fun v99 m98 hqm98 => ?_))
                              obtain ⟨hIm98, hfm98, hvm98⟩ := hqm98
                              have hFm98 := zfr_tr hFm28 hfm98 rfl
                              obtain ⟨hRNSm98, hvm98⟩ := hvm98
                              have hRWDm98 := zR_WD_fr (zdis_fr hfm98 rfl) hRWDm28
                              have s100 := hRNSm98 a0 hc0
                              have r101 : 0 ≤ (m98 a0 8) ∧ (m98 a0 8) ≤ 6 := zi_rd hIm98 hc0 zb_28_8
                              have r102 : (-2147483648) ≤ (m98 a0 9) ∧ (m98 a0 9) ≤ 2147483647 := zi_rd hIm98 hc0 zb_28_9
                              have hRTRm98 := zR_TR_of hc0 (show (m98 a0 8 = 5 → (0 ≤ m98 a0 9 ∧ m98 a0 9 ≤ 5)) ∧ (m98 a0 8 = 1 → (0 ≤ m98 a0 9 ∧ m98 a0 9 ≤ 32)) ∧ (m98 a0 8 = 3 → 0 ≤ m98 a0 9) by omega)
                              exact zw_some ⟨hIm98, hFm98, hRNSm98, hRTRm98, hRWDm98, trivial, by omega, by omega⟩
                            · exfalso; omega
                          · exfalso; omega
                    · exfalso; omega
                  · refine zw_b (by omega) ?_
                    refine zw_some ?_
                    refine zw_ite (fun h103 => ?_) (fun h103 => ?_)
                    · exfalso; omega
                    · have r104 : 0 ≤ (m28 a0 10) ∧ (m28 a0 10) ≤ 700 := zi_rd hIm28 hc0 zb_28_10
                      have e105 : (m28 a0 10) = (mh a0 7) := (zs_eq hmm28)
                      have hM : (700 - (m28 a0 7)) * 1 + 701 < (k : Int) := by omega
                      exact ih.2.1  m28 hIm28 hFm28 ⟨by omega, by omega⟩ ⟨by omega, by omega⟩ (by omega) (by omega) hRNSm28 hRWDm28 hM
            · generalize hmm106 : zu_up m28 a0 8 0 = m106
              have hIm106 := zi_up hmm106 hIm28 hc0 zb_28_8 (by omega) (by omega)
              have hFm106 := zfr_up hmm106 hFm28 hc0 rfl
              have hRNSm106 := zR_NS_fr (zdis_fr (zfr_up hmm106 (zfr_rf [(28, 9)] _) hc0 rfl) rfl) hRNSm28
              have hRWDm106 := zR_WD_fr (zdis_fr (zfr_up hmm106 (zfr_rf [(28, 9)] _) hc0 rfl) rfl) hRWDm28
              have r107 : 0 ≤ (m106 a0 8) ∧ (m106 a0 8) ≤ 6 := zi_rd hIm106 hc0 zb_28_8
              have e108 : (m106 a0 8) = 0 := (zs_eq hmm106)
              have r109 : (-2147483648) ≤ (m106 a0 9) ∧ (m106 a0 9) ≤ 2147483647 := zi_rd hIm106 hc0 zb_28_9
              have hRTRm106 := zR_TR_of hc0 (show (m106 a0 8 = 5 → (0 ≤ m106 a0 9 ∧ m106 a0 9 ≤ 5)) ∧ (m106 a0 8 = 1 → (0 ≤ m106 a0 9 ∧ m106 a0 9 ≤ 32)) ∧ (m106 a0 8 = 3 → 0 ≤ m106 a0 9) by omega)
              have r110 : 0 ≤ (m106 a0 7) ∧ (m106 a0 7) ≤ 700 := zi_rd hIm106 hc0 zb_28_7
              have e111 : (m106 a0 7) = (m28 a0 7) := (zs_ne hmm106 (Or.inr (by decide)))
              exact zw_some ⟨hIm106, hFm106, hRNSm106, hRTRm106, hRWDm106, trivial, by omega, by omega⟩
          · have w112 := zu_w32_id (z := (mh a0 7) + 1) (by omega) (by omega)
            generalize hmm113 : zu_up mh a0 7 (zu_w32 ((mh a0 7) + 1)) = m113
            have hIm113 := zi_up hmm113 hImh hc0 zb_28_7 (by omega) (by omega)
            have hFm113 := zfr_up hmm113 hFmh hc0 rfl
            have hRWDm113 := zR_WD_fr (zdis_fr (zfr_up hmm113 (zfr_rf [(28, 8)] _) hc0 rfl) rfl) hRWDmh
            have r114 : 0 ≤ (m113 a0 7) ∧ (m113 a0 7) ≤ 700 := zi_rd hIm113 hc0 zb_28_7
            have e115 : (m113 a0 7) = (zu_w32 ((mh a0 7) + 1)) := (zs_eq hmm113)
            have r116 : 0 ≤ (m113 a0 6) ∧ (m113 a0 6) ≤ 700 := zi_rd hIm113 hc0 zb_28_6
            have e117 : (m113 a0 6) = (mh a0 6) := (zs_ne hmm113 (Or.inr (by decide)))
            have hRNSm113 := zR_NS_of hc0 (show m113 a0 7 ≤ m113 a0 6 by omega)
            have hM : (700 - (m113 a0 7)) * 1 + 1402 < (k : Int) := by omega
            exact ih.1  m113 hIm113 hFm113 (by omega) hRNSm113 hRWDm113 hM
    · intro mh hImh hFmh hg0 hg1 hH0 hH1 hRNSmh hRWDmh hM
      refine zw_eq (zu_rega_at (zt_T n) (zm_89 n) (zdp_89 n) _ _ _ _ _ _ (zr_89_90 n _ _ a0 mh)) ?_
      have r118 : 0 ≤ (mh a0 7) ∧ (mh a0 7) ≤ 700 := zi_rd hImh hc0 zb_28_7
      have s119 := hRNSmh a0 hc0
      refine zw_bd (zw_eq (zu_call_at (zt_T n) (zm_87 n) (zdp_87 n) _ _ _ _ _ rfl (zr_87_0 n _ _ a0 (mh a0 7) mh)) ?_)
      refine zw_ite (fun h120 => ?_) (fun h120 => ?_)
      · refine zw_b (by omega) ?_
        refine zw_some ?_
        refine zw_ite (fun h121 => ?_) (fun h121 => ?_)
        · refine zw_bd (zw_mono (zk_86 n hImh hc0 ⟨by omega, by omega⟩ ⟨by omega, by omega⟩ hRWDmh) (fun v123 m122 hqm122 => ?_))
          obtain ⟨hIm122, hfm122, hvm122⟩ := hqm122
          have hFm122 := zfr_tr hFmh hfm122 rfl
          obtain ⟨hRWDm122, hvm122⟩ := hvm122
          have hRNSm122 := zR_NS_fr (zdis_fr hfm122 rfl) hRNSmh
          have s124 := hRNSm122 a0 hc0
          generalize hmm125 : zu_up m122 a0 9 v123 = m125
          have hIm125 := zi_up hmm125 hIm122 hc0 zb_28_9 (by omega) (by omega)
          have hFm125 := zfr_up hmm125 hFm122 hc0 rfl
          have hRNSm125 := zR_NS_fr (zdis_fr (zfr_up hmm125 (zfr_rf [(28, 10)] _) hc0 rfl) rfl) hRNSm122
          have hRWDm125 := zR_WD_fr (zdis_fr (zfr_up hmm125 (zfr_rf [(28, 10)] _) hc0 rfl) rfl) hRWDm122
          have r126 : (-2147483648) ≤ (m125 a0 9) ∧ (m125 a0 9) ≤ 2147483647 := zi_rd hIm125 hc0 zb_28_9
          have e127 : (m125 a0 9) = v123 := (zs_eq hmm125)
          refine zw_ite (fun h128 => ?_) (fun h128 => ?_)
          · have r129 : 0 ≤ (m125 a0 7) ∧ (m125 a0 7) ≤ 700 := zi_rd hIm125 hc0 zb_28_7
            have e130 : (m125 a0 7) = (mh a0 7) := (Eq.trans (zs_ne hmm125 (Or.inr (by decide))) (zfr_ap hfm122 hc0 rfl))
            have r131 : 0 ≤ (m125 a0 10) ∧ (m125 a0 10) ≤ 700 := zi_rd hIm125 hc0 zb_28_10
            have e132 : (m125 a0 10) = (mh a0 10) := (Eq.trans (zs_ne hmm125 (Or.inr (by decide))) (zfr_ap hfm122 hc0 rfl))
            have w133 := zu_w32_id (z := (m125 a0 7) - (m125 a0 10)) (by omega) (by omega)
            refine zw_ite (fun h134 => ?_) (fun h134 => ?_)
            · generalize hmm135 : zu_up m125 a0 8 2 = m135
              have hIm135 := zi_up hmm135 hIm125 hc0 zb_28_8 (by omega) (by omega)
              have hFm135 := zfr_up hmm135 hFm125 hc0 rfl
              have hRNSm135 := zR_NS_fr (zdis_fr (zfr_up hmm135 (zfr_rf [(28, 9)] _) hc0 rfl) rfl) hRNSm125
              have hRWDm135 := zR_WD_fr (zdis_fr (zfr_up hmm135 (zfr_rf [(28, 9)] _) hc0 rfl) rfl) hRWDm125
              have r136 : 0 ≤ (m135 a0 8) ∧ (m135 a0 8) ≤ 6 := zi_rd hIm135 hc0 zb_28_8
              have e137 : (m135 a0 8) = 2 := (zs_eq hmm135)
              refine zw_ite (fun h138 => ?_) (fun h138 => ?_)
              · exfalso; omega
              · have r139 : 0 ≤ (m135 a0 10) ∧ (m135 a0 10) ≤ 700 := zi_rd hIm135 hc0 zb_28_10
                have e140 : (m135 a0 10) = (m125 a0 10) := (zs_ne hmm135 (Or.inr (by decide)))
                have r141 : 0 ≤ (m135 a0 7) ∧ (m135 a0 7) ≤ 700 := zi_rd hIm135 hc0 zb_28_7
                have e142 : (m135 a0 7) = (m125 a0 7) := (zs_ne hmm135 (Or.inr (by decide)))
                refine zw_bd (zw_mono (zk_91 n hIm135 hc0 ⟨by omega, by omega⟩ ⟨by omega, by omega⟩) (fun v144 m143 hqm143 => ?_))
                obtain ⟨hIm143, hfm143, hvm143⟩ := hqm143
                have hFm143 := zfr_tr hFm135 hfm143 rfl
                have hRNSm143 := zR_NS_fr (zdis_fr hfm143 rfl) hRNSm135
                have hRWDm143 := zR_WD_fr (zdis_fr hfm143 rfl) hRWDm135
                have s145 := hRNSm143 a0 hc0
                generalize hmm146 : zu_up m143 a0 9 v144 = m146
                have hIm146 := zi_up hmm146 hIm143 hc0 zb_28_9 (by omega) (by omega)
                have hFm146 := zfr_up hmm146 hFm143 hc0 rfl
                have hRNSm146 := zR_NS_fr (zdis_fr (zfr_up hmm146 (zfr_rf [(28, 10)] _) hc0 rfl) rfl) hRNSm143
                have hRWDm146 := zR_WD_fr (zdis_fr (zfr_up hmm146 (zfr_rf [(28, 10)] _) hc0 rfl) rfl) hRWDm143
                have r147 : 0 ≤ (m146 a0 8) ∧ (m146 a0 8) ≤ 6 := zi_rd hIm146 hc0 zb_28_8
                have e148 : (m146 a0 8) = (m135 a0 8) := (Eq.trans (zs_ne hmm146 (Or.inr (by decide))) (zfr_ap hfm143 hc0 rfl))
                have r149 : (-2147483648) ≤ (m146 a0 9) ∧ (m146 a0 9) ≤ 2147483647 := zi_rd hIm146 hc0 zb_28_9
                have e150 : (m146 a0 9) = v144 := (zs_eq hmm146)
                have hRTRm146 := zR_TR_of hc0 (show (m146 a0 8 = 5 → (0 ≤ m146 a0 9 ∧ m146 a0 9 ≤ 5)) ∧ (m146 a0 8 = 1 → (0 ≤ m146 a0 9 ∧ m146 a0 9 ≤ 32)) ∧ (m146 a0 8 = 3 → 0 ≤ m146 a0 9) by omega)
                have r151 : 0 ≤ (m146 a0 7) ∧ (m146 a0 7) ≤ 700 := zi_rd hIm146 hc0 zb_28_7
                have e152 : (m146 a0 7) = (m135 a0 7) := (Eq.trans (zs_ne hmm146 (Or.inr (by decide))) (zfr_ap hfm143 hc0 rfl))
                exact zw_some ⟨hIm146, hFm146, hRNSm146, hRTRm146, hRWDm146, trivial, by omega, by omega⟩
            · generalize hmm153 : zu_up m125 a0 8 6 = m153
              have hIm153 := zi_up hmm153 hIm125 hc0 zb_28_8 (by omega) (by omega)
              have hFm153 := zfr_up hmm153 hFm125 hc0 rfl
              have hRNSm153 := zR_NS_fr (zdis_fr (zfr_up hmm153 (zfr_rf [(28, 9)] _) hc0 rfl) rfl) hRNSm125
              have hRWDm153 := zR_WD_fr (zdis_fr (zfr_up hmm153 (zfr_rf [(28, 9)] _) hc0 rfl) rfl) hRWDm125
              have r154 : 0 ≤ (m153 a0 8) ∧ (m153 a0 8) ≤ 6 := zi_rd hIm153 hc0 zb_28_8
              have e155 : (m153 a0 8) = 6 := (zs_eq hmm153)
              refine zw_ite (fun h156 => ?_) (fun h156 => ?_)
              · have r157 : (-2147483648) ≤ (m153 a0 9) ∧ (m153 a0 9) ≤ 2147483647 := zi_rd hIm153 hc0 zb_28_9
                have e158 : (m153 a0 9) = (m125 a0 9) := (zs_ne hmm153 (Or.inr (by decide)))
                have hRTRm153 := zR_TR_of hc0 (show (m153 a0 8 = 5 → (0 ≤ m153 a0 9 ∧ m153 a0 9 ≤ 5)) ∧ (m153 a0 8 = 1 → (0 ≤ m153 a0 9 ∧ m153 a0 9 ≤ 32)) ∧ (m153 a0 8 = 3 → 0 ≤ m153 a0 9) by omega)
                have r159 : 0 ≤ (m153 a0 7) ∧ (m153 a0 7) ≤ 700 := zi_rd hIm153 hc0 zb_28_7
                have e160 : (m153 a0 7) = (m125 a0 7) := (zs_ne hmm153 (Or.inr (by decide)))
                exact zw_some ⟨hIm153, hFm153, hRNSm153, hRTRm153, hRWDm153, trivial, by omega, by omega⟩
              · exfalso; omega
          · generalize hmm161 : zu_up m125 a0 8 1 = m161
            have hIm161 := zi_up hmm161 hIm125 hc0 zb_28_8 (by omega) (by omega)
            have hFm161 := zfr_up hmm161 hFm125 hc0 rfl
            have hRNSm161 := zR_NS_fr (zdis_fr (zfr_up hmm161 (zfr_rf [(28, 9)] _) hc0 rfl) rfl) hRNSm125
            have hRWDm161 := zR_WD_fr (zdis_fr (zfr_up hmm161 (zfr_rf [(28, 9)] _) hc0 rfl) rfl) hRWDm125
            have r162 : 0 ≤ (m161 a0 8) ∧ (m161 a0 8) ≤ 6 := zi_rd hIm161 hc0 zb_28_8
            have e163 : (m161 a0 8) = 1 := (zs_eq hmm161)
            refine zw_ite (fun h164 => ?_) (fun h164 => ?_)
            · have r165 : (-2147483648) ≤ (m161 a0 9) ∧ (m161 a0 9) ≤ 2147483647 := zi_rd hIm161 hc0 zb_28_9
              have e166 : (m161 a0 9) = (m125 a0 9) := (zs_ne hmm161 (Or.inr (by decide)))
              have hRTRm161 := zR_TR_of hc0 (show (m161 a0 8 = 5 → (0 ≤ m161 a0 9 ∧ m161 a0 9 ≤ 5)) ∧ (m161 a0 8 = 1 → (0 ≤ m161 a0 9 ∧ m161 a0 9 ≤ 32)) ∧ (m161 a0 8 = 3 → 0 ≤ m161 a0 9) by omega)
              have r167 : 0 ≤ (m161 a0 7) ∧ (m161 a0 7) ≤ 700 := zi_rd hIm161 hc0 zb_28_7
              have e168 : (m161 a0 7) = (mh a0 7) := (Eq.trans (zs_ne hmm161 (Or.inr (by decide))) (Eq.trans (zs_ne hmm125 (Or.inr (by decide))) (zfr_ap hfm122 hc0 rfl)))
              exact zw_some ⟨hIm161, hFm161, hRNSm161, hRTRm161, hRWDm161, trivial, by omega, by omega⟩
            · exfalso; omega
        · exfalso; omega
      · have b169 : 0 ≤ (mh a0 7) ∧ (mh a0 7) < 700 := by omega
        refine zw_if b169 ?_
        have r170 : (-2147483648) ≤ (mh 191 (mh a0 7)) ∧ (mh 191 (mh a0 7)) ≤ 2147483647 := zi_rd hImh zq_191 (zb_100 _)
        refine zw_ite (fun h171 => ?_) (fun h171 => ?_)
        · refine zw_b (by omega) ?_
          refine zw_some ?_
          refine zw_ite (fun h172 => ?_) (fun h172 => ?_)
          · refine zw_bd (zw_mono (zk_86 n hImh hc0 ⟨by omega, by omega⟩ ⟨by omega, by omega⟩ hRWDmh) (fun v174 m173 hqm173 => ?_))
            obtain ⟨hIm173, hfm173, hvm173⟩ := hqm173
            have hFm173 := zfr_tr hFmh hfm173 rfl
            obtain ⟨hRWDm173, hvm173⟩ := hvm173
            have hRNSm173 := zR_NS_fr (zdis_fr hfm173 rfl) hRNSmh
            have s175 := hRNSm173 a0 hc0
            generalize hmm176 : zu_up m173 a0 9 v174 = m176
            have hIm176 := zi_up hmm176 hIm173 hc0 zb_28_9 (by omega) (by omega)
            have hFm176 := zfr_up hmm176 hFm173 hc0 rfl
            have hRNSm176 := zR_NS_fr (zdis_fr (zfr_up hmm176 (zfr_rf [(28, 10)] _) hc0 rfl) rfl) hRNSm173
            have hRWDm176 := zR_WD_fr (zdis_fr (zfr_up hmm176 (zfr_rf [(28, 10)] _) hc0 rfl) rfl) hRWDm173
            have r177 : (-2147483648) ≤ (m176 a0 9) ∧ (m176 a0 9) ≤ 2147483647 := zi_rd hIm176 hc0 zb_28_9
            have e178 : (m176 a0 9) = v174 := (zs_eq hmm176)
            refine zw_ite (fun h179 => ?_) (fun h179 => ?_)
            · have r180 : 0 ≤ (m176 a0 7) ∧ (m176 a0 7) ≤ 700 := zi_rd hIm176 hc0 zb_28_7
              have e181 : (m176 a0 7) = (mh a0 7) := (Eq.trans (zs_ne hmm176 (Or.inr (by decide))) (zfr_ap hfm173 hc0 rfl))
              have r182 : 0 ≤ (m176 a0 10) ∧ (m176 a0 10) ≤ 700 := zi_rd hIm176 hc0 zb_28_10
              have e183 : (m176 a0 10) = (mh a0 10) := (Eq.trans (zs_ne hmm176 (Or.inr (by decide))) (zfr_ap hfm173 hc0 rfl))
              have w184 := zu_w32_id (z := (m176 a0 7) - (m176 a0 10)) (by omega) (by omega)
              refine zw_ite (fun h185 => ?_) (fun h185 => ?_)
              · generalize hmm186 : zu_up m176 a0 8 2 = m186
                have hIm186 := zi_up hmm186 hIm176 hc0 zb_28_8 (by omega) (by omega)
                have hFm186 := zfr_up hmm186 hFm176 hc0 rfl
                have hRNSm186 := zR_NS_fr (zdis_fr (zfr_up hmm186 (zfr_rf [(28, 9)] _) hc0 rfl) rfl) hRNSm176
                have hRWDm186 := zR_WD_fr (zdis_fr (zfr_up hmm186 (zfr_rf [(28, 9)] _) hc0 rfl) rfl) hRWDm176
                have r187 : 0 ≤ (m186 a0 8) ∧ (m186 a0 8) ≤ 6 := zi_rd hIm186 hc0 zb_28_8
                have e188 : (m186 a0 8) = 2 := (zs_eq hmm186)
                refine zw_ite (fun h189 => ?_) (fun h189 => ?_)
                · exfalso; omega
                · have r190 : 0 ≤ (m186 a0 10) ∧ (m186 a0 10) ≤ 700 := zi_rd hIm186 hc0 zb_28_10
                  have e191 : (m186 a0 10) = (m176 a0 10) := (zs_ne hmm186 (Or.inr (by decide)))
                  have r192 : 0 ≤ (m186 a0 7) ∧ (m186 a0 7) ≤ 700 := zi_rd hIm186 hc0 zb_28_7
                  have e193 : (m186 a0 7) = (m176 a0 7) := (zs_ne hmm186 (Or.inr (by decide)))
                  refine zw_bd (zw_mono (zk_91 n hIm186 hc0 ⟨by omega, by omega⟩ ⟨by omega, by omega⟩) (fun v195 m194 hqm194 => ?_))
                  obtain ⟨hIm194, hfm194, hvm194⟩ := hqm194
                  have hFm194 := zfr_tr hFm186 hfm194 rfl
                  have hRNSm194 := zR_NS_fr (zdis_fr hfm194 rfl) hRNSm186
                  have hRWDm194 := zR_WD_fr (zdis_fr hfm194 rfl) hRWDm186
                  have s196 := hRNSm194 a0 hc0
                  generalize hmm197 : zu_up m194 a0 9 v195 = m197
                  have hIm197 := zi_up hmm197 hIm194 hc0 zb_28_9 (by omega) (by omega)
                  have hFm197 := zfr_up hmm197 hFm194 hc0 rfl
                  have hRNSm197 := zR_NS_fr (zdis_fr (zfr_up hmm197 (zfr_rf [(28, 10)] _) hc0 rfl) rfl) hRNSm194
                  have hRWDm197 := zR_WD_fr (zdis_fr (zfr_up hmm197 (zfr_rf [(28, 10)] _) hc0 rfl) rfl) hRWDm194
                  have r198 : 0 ≤ (m197 a0 8) ∧ (m197 a0 8) ≤ 6 := zi_rd hIm197 hc0 zb_28_8
                  have e199 : (m197 a0 8) = (m186 a0 8) := (Eq.trans (zs_ne hmm197 (Or.inr (by decide))) (zfr_ap hfm194 hc0 rfl))
                  have r200 : (-2147483648) ≤ (m197 a0 9) ∧ (m197 a0 9) ≤ 2147483647 := zi_rd hIm197 hc0 zb_28_9
                  have e201 : (m197 a0 9) = v195 := (zs_eq hmm197)
                  have hRTRm197 := zR_TR_of hc0 (show (m197 a0 8 = 5 → (0 ≤ m197 a0 9 ∧ m197 a0 9 ≤ 5)) ∧ (m197 a0 8 = 1 → (0 ≤ m197 a0 9 ∧ m197 a0 9 ≤ 32)) ∧ (m197 a0 8 = 3 → 0 ≤ m197 a0 9) by omega)
                  have r202 : 0 ≤ (m197 a0 7) ∧ (m197 a0 7) ≤ 700 := zi_rd hIm197 hc0 zb_28_7
                  have e203 : (m197 a0 7) = (m186 a0 7) := (Eq.trans (zs_ne hmm197 (Or.inr (by decide))) (zfr_ap hfm194 hc0 rfl))
                  exact zw_some ⟨hIm197, hFm197, hRNSm197, hRTRm197, hRWDm197, trivial, by omega, by omega⟩
              · generalize hmm204 : zu_up m176 a0 8 6 = m204
                have hIm204 := zi_up hmm204 hIm176 hc0 zb_28_8 (by omega) (by omega)
                have hFm204 := zfr_up hmm204 hFm176 hc0 rfl
                have hRNSm204 := zR_NS_fr (zdis_fr (zfr_up hmm204 (zfr_rf [(28, 9)] _) hc0 rfl) rfl) hRNSm176
                have hRWDm204 := zR_WD_fr (zdis_fr (zfr_up hmm204 (zfr_rf [(28, 9)] _) hc0 rfl) rfl) hRWDm176
                have r205 : 0 ≤ (m204 a0 8) ∧ (m204 a0 8) ≤ 6 := zi_rd hIm204 hc0 zb_28_8
                have e206 : (m204 a0 8) = 6 := (zs_eq hmm204)
                refine zw_ite (fun h207 => ?_) (fun h207 => ?_)
                · have r208 : (-2147483648) ≤ (m204 a0 9) ∧ (m204 a0 9) ≤ 2147483647 := zi_rd hIm204 hc0 zb_28_9
                  have e209 : (m204 a0 9) = (m176 a0 9) := (zs_ne hmm204 (Or.inr (by decide)))
                  have hRTRm204 := zR_TR_of hc0 (show (m204 a0 8 = 5 → (0 ≤ m204 a0 9 ∧ m204 a0 9 ≤ 5)) ∧ (m204 a0 8 = 1 → (0 ≤ m204 a0 9 ∧ m204 a0 9 ≤ 32)) ∧ (m204 a0 8 = 3 → 0 ≤ m204 a0 9) by omega)
                  have r210 : 0 ≤ (m204 a0 7) ∧ (m204 a0 7) ≤ 700 := zi_rd hIm204 hc0 zb_28_7
                  have e211 : (m204 a0 7) = (m176 a0 7) := (zs_ne hmm204 (Or.inr (by decide)))
                  exact zw_some ⟨hIm204, hFm204, hRNSm204, hRTRm204, hRWDm204, trivial, by omega, by omega⟩
                · exfalso; omega
            · generalize hmm212 : zu_up m176 a0 8 1 = m212
              have hIm212 := zi_up hmm212 hIm176 hc0 zb_28_8 (by omega) (by omega)
              have hFm212 := zfr_up hmm212 hFm176 hc0 rfl
              have hRNSm212 := zR_NS_fr (zdis_fr (zfr_up hmm212 (zfr_rf [(28, 9)] _) hc0 rfl) rfl) hRNSm176
              have hRWDm212 := zR_WD_fr (zdis_fr (zfr_up hmm212 (zfr_rf [(28, 9)] _) hc0 rfl) rfl) hRWDm176
              have r213 : 0 ≤ (m212 a0 8) ∧ (m212 a0 8) ≤ 6 := zi_rd hIm212 hc0 zb_28_8
              have e214 : (m212 a0 8) = 1 := (zs_eq hmm212)
              refine zw_ite (fun h215 => ?_) (fun h215 => ?_)
              · have r216 : (-2147483648) ≤ (m212 a0 9) ∧ (m212 a0 9) ≤ 2147483647 := zi_rd hIm212 hc0 zb_28_9
                have e217 : (m212 a0 9) = (m176 a0 9) := (zs_ne hmm212 (Or.inr (by decide)))
                have hRTRm212 := zR_TR_of hc0 (show (m212 a0 8 = 5 → (0 ≤ m212 a0 9 ∧ m212 a0 9 ≤ 5)) ∧ (m212 a0 8 = 1 → (0 ≤ m212 a0 9 ∧ m212 a0 9 ≤ 32)) ∧ (m212 a0 8 = 3 → 0 ≤ m212 a0 9) by omega)
                have r218 : 0 ≤ (m212 a0 7) ∧ (m212 a0 7) ≤ 700 := zi_rd hIm212 hc0 zb_28_7
                have e219 : (m212 a0 7) = (mh a0 7) := (Eq.trans (zs_ne hmm212 (Or.inr (by decide))) (Eq.trans (zs_ne hmm176 (Or.inr (by decide))) (zfr_ap hfm173 hc0 rfl)))
                exact zw_some ⟨hIm212, hFm212, hRNSm212, hRTRm212, hRWDm212, trivial, by omega, by omega⟩
              · exfalso; omega
          · exfalso; omega
        · have b220 : 0 ≤ (mh a0 7) ∧ (mh a0 7) < 700 := by omega
          refine zw_if b220 ?_
          refine zw_ite (fun h221 => ?_) (fun h221 => ?_)
          · refine zw_b (by omega) ?_
            refine zw_some ?_
            refine zw_ite (fun h222 => ?_) (fun h222 => ?_)
            · refine zw_bd (zw_mono (zk_86 n hImh hc0 ⟨by omega, by omega⟩ ⟨by omega, by omega⟩ hRWDmh) (fun v224 m223 hqm223 => ?_))
              obtain ⟨hIm223, hfm223, hvm223⟩ := hqm223
              have hFm223 := zfr_tr hFmh hfm223 rfl
              obtain ⟨hRWDm223, hvm223⟩ := hvm223
              have hRNSm223 := zR_NS_fr (zdis_fr hfm223 rfl) hRNSmh
              have s225 := hRNSm223 a0 hc0
              generalize hmm226 : zu_up m223 a0 9 v224 = m226
              have hIm226 := zi_up hmm226 hIm223 hc0 zb_28_9 (by omega) (by omega)
              have hFm226 := zfr_up hmm226 hFm223 hc0 rfl
              have hRNSm226 := zR_NS_fr (zdis_fr (zfr_up hmm226 (zfr_rf [(28, 10)] _) hc0 rfl) rfl) hRNSm223
              have hRWDm226 := zR_WD_fr (zdis_fr (zfr_up hmm226 (zfr_rf [(28, 10)] _) hc0 rfl) rfl) hRWDm223
              have r227 : (-2147483648) ≤ (m226 a0 9) ∧ (m226 a0 9) ≤ 2147483647 := zi_rd hIm226 hc0 zb_28_9
              have e228 : (m226 a0 9) = v224 := (zs_eq hmm226)
              refine zw_ite (fun h229 => ?_) (fun h229 => ?_)
              · have r230 : 0 ≤ (m226 a0 7) ∧ (m226 a0 7) ≤ 700 := zi_rd hIm226 hc0 zb_28_7
                have e231 : (m226 a0 7) = (mh a0 7) := (Eq.trans (zs_ne hmm226 (Or.inr (by decide))) (zfr_ap hfm223 hc0 rfl))
                have r232 : 0 ≤ (m226 a0 10) ∧ (m226 a0 10) ≤ 700 := zi_rd hIm226 hc0 zb_28_10
                have e233 : (m226 a0 10) = (mh a0 10) := (Eq.trans (zs_ne hmm226 (Or.inr (by decide))) (zfr_ap hfm223 hc0 rfl))
                have w234 := zu_w32_id (z := (m226 a0 7) - (m226 a0 10)) (by omega) (by omega)
                refine zw_ite (fun h235 => ?_) (fun h235 => ?_)
                · generalize hmm236 : zu_up m226 a0 8 2 = m236
                  have hIm236 := zi_up hmm236 hIm226 hc0 zb_28_8 (by omega) (by omega)
                  have hFm236 := zfr_up hmm236 hFm226 hc0 rfl
                  have hRNSm236 := zR_NS_fr (zdis_fr (zfr_up hmm236 (zfr_rf [(28, 9)] _) hc0 rfl) rfl) hRNSm226
                  have hRWDm236 := zR_WD_fr (zdis_fr (zfr_up hmm236 (zfr_rf [(28, 9)] _) hc0 rfl) rfl) hRWDm226
                  have r237 : 0 ≤ (m236 a0 8) ∧ (m236 a0 8) ≤ 6 := zi_rd hIm236 hc0 zb_28_8
                  have e238 : (m236 a0 8) = 2 := (zs_eq hmm236)
                  refine zw_ite (fun h239 => ?_) (fun h239 => ?_)
                  · exfalso; omega
                  · have r240 : 0 ≤ (m236 a0 10) ∧ (m236 a0 10) ≤ 700 := zi_rd hIm236 hc0 zb_28_10
                    have e241 : (m236 a0 10) = (m226 a0 10) := (zs_ne hmm236 (Or.inr (by decide)))
                    have r242 : 0 ≤ (m236 a0 7) ∧ (m236 a0 7) ≤ 700 := zi_rd hIm236 hc0 zb_28_7
                    have e243 : (m236 a0 7) = (m226 a0 7) := (zs_ne hmm236 (Or.inr (by decide)))
                    refine zw_bd (zw_mono (zk_91 n hIm236 hc0 ⟨by omega, by omega⟩ ⟨by omega, by omega⟩) (fun v245 m244 hqm244 => ?_))
                    obtain ⟨hIm244, hfm244, hvm244⟩ := hqm244
                    have hFm244 := zfr_tr hFm236 hfm244 rfl
                    have hRNSm244 := zR_NS_fr (zdis_fr hfm244 rfl) hRNSm236
                    have hRWDm244 := zR_WD_fr (zdis_fr hfm244 rfl) hRWDm236
                    have s246 := hRNSm244 a0 hc0
                    generalize hmm247 : zu_up m244 a0 9 v245 = m247
                    have hIm247 := zi_up hmm247 hIm244 hc0 zb_28_9 (by omega) (by omega)
                    have hFm247 := zfr_up hmm247 hFm244 hc0 rfl
                    have hRNSm247 := zR_NS_fr (zdis_fr (zfr_up hmm247 (zfr_rf [(28, 10)] _) hc0 rfl) rfl) hRNSm244
                    have hRWDm247 := zR_WD_fr (zdis_fr (zfr_up hmm247 (zfr_rf [(28, 10)] _) hc0 rfl) rfl) hRWDm244
                    have r248 : 0 ≤ (m247 a0 8) ∧ (m247 a0 8) ≤ 6 := zi_rd hIm247 hc0 zb_28_8
                    have e249 : (m247 a0 8) = (m236 a0 8) := (Eq.trans (zs_ne hmm247 (Or.inr (by decide))) (zfr_ap hfm244 hc0 rfl))
                    have r250 : (-2147483648) ≤ (m247 a0 9) ∧ (m247 a0 9) ≤ 2147483647 := zi_rd hIm247 hc0 zb_28_9
                    have e251 : (m247 a0 9) = v245 := (zs_eq hmm247)
                    have hRTRm247 := zR_TR_of hc0 (show (m247 a0 8 = 5 → (0 ≤ m247 a0 9 ∧ m247 a0 9 ≤ 5)) ∧ (m247 a0 8 = 1 → (0 ≤ m247 a0 9 ∧ m247 a0 9 ≤ 32)) ∧ (m247 a0 8 = 3 → 0 ≤ m247 a0 9) by omega)
                    have r252 : 0 ≤ (m247 a0 7) ∧ (m247 a0 7) ≤ 700 := zi_rd hIm247 hc0 zb_28_7
                    have e253 : (m247 a0 7) = (m236 a0 7) := (Eq.trans (zs_ne hmm247 (Or.inr (by decide))) (zfr_ap hfm244 hc0 rfl))
                    exact zw_some ⟨hIm247, hFm247, hRNSm247, hRTRm247, hRWDm247, trivial, by omega, by omega⟩
                · generalize hmm254 : zu_up m226 a0 8 6 = m254
                  have hIm254 := zi_up hmm254 hIm226 hc0 zb_28_8 (by omega) (by omega)
                  have hFm254 := zfr_up hmm254 hFm226 hc0 rfl
                  have hRNSm254 := zR_NS_fr (zdis_fr (zfr_up hmm254 (zfr_rf [(28, 9)] _) hc0 rfl) rfl) hRNSm226
                  have hRWDm254 := zR_WD_fr (zdis_fr (zfr_up hmm254 (zfr_rf [(28, 9)] _) hc0 rfl) rfl) hRWDm226
                  have r255 : 0 ≤ (m254 a0 8) ∧ (m254 a0 8) ≤ 6 := zi_rd hIm254 hc0 zb_28_8
                  have e256 : (m254 a0 8) = 6 := (zs_eq hmm254)
                  refine zw_ite (fun h257 => ?_) (fun h257 => ?_)
                  · have r258 : (-2147483648) ≤ (m254 a0 9) ∧ (m254 a0 9) ≤ 2147483647 := zi_rd hIm254 hc0 zb_28_9
                    have e259 : (m254 a0 9) = (m226 a0 9) := (zs_ne hmm254 (Or.inr (by decide)))
                    have hRTRm254 := zR_TR_of hc0 (show (m254 a0 8 = 5 → (0 ≤ m254 a0 9 ∧ m254 a0 9 ≤ 5)) ∧ (m254 a0 8 = 1 → (0 ≤ m254 a0 9 ∧ m254 a0 9 ≤ 32)) ∧ (m254 a0 8 = 3 → 0 ≤ m254 a0 9) by omega)
                    have r260 : 0 ≤ (m254 a0 7) ∧ (m254 a0 7) ≤ 700 := zi_rd hIm254 hc0 zb_28_7
                    have e261 : (m254 a0 7) = (m226 a0 7) := (zs_ne hmm254 (Or.inr (by decide)))
                    exact zw_some ⟨hIm254, hFm254, hRNSm254, hRTRm254, hRWDm254, trivial, by omega, by omega⟩
                  · exfalso; omega
              · generalize hmm262 : zu_up m226 a0 8 1 = m262
                have hIm262 := zi_up hmm262 hIm226 hc0 zb_28_8 (by omega) (by omega)
                have hFm262 := zfr_up hmm262 hFm226 hc0 rfl
                have hRNSm262 := zR_NS_fr (zdis_fr (zfr_up hmm262 (zfr_rf [(28, 9)] _) hc0 rfl) rfl) hRNSm226
                have hRWDm262 := zR_WD_fr (zdis_fr (zfr_up hmm262 (zfr_rf [(28, 9)] _) hc0 rfl) rfl) hRWDm226
                have r263 : 0 ≤ (m262 a0 8) ∧ (m262 a0 8) ≤ 6 := zi_rd hIm262 hc0 zb_28_8
                have e264 : (m262 a0 8) = 1 := (zs_eq hmm262)
                refine zw_ite (fun h265 => ?_) (fun h265 => ?_)
                · have r266 : (-2147483648) ≤ (m262 a0 9) ∧ (m262 a0 9) ≤ 2147483647 := zi_rd hIm262 hc0 zb_28_9
                  have e267 : (m262 a0 9) = (m226 a0 9) := (zs_ne hmm262 (Or.inr (by decide)))
                  have hRTRm262 := zR_TR_of hc0 (show (m262 a0 8 = 5 → (0 ≤ m262 a0 9 ∧ m262 a0 9 ≤ 5)) ∧ (m262 a0 8 = 1 → (0 ≤ m262 a0 9 ∧ m262 a0 9 ≤ 32)) ∧ (m262 a0 8 = 3 → 0 ≤ m262 a0 9) by omega)
                  have r268 : 0 ≤ (m262 a0 7) ∧ (m262 a0 7) ≤ 700 := zi_rd hIm262 hc0 zb_28_7
                  have e269 : (m262 a0 7) = (mh a0 7) := (Eq.trans (zs_ne hmm262 (Or.inr (by decide))) (Eq.trans (zs_ne hmm226 (Or.inr (by decide))) (zfr_ap hfm223 hc0 rfl)))
                  exact zw_some ⟨hIm262, hFm262, hRNSm262, hRTRm262, hRWDm262, trivial, by omega, by omega⟩
                · exfalso; omega
            · exfalso; omega
          · refine zw_b (by omega) ?_
            refine zw_some ?_
            refine zw_ite (fun h270 => ?_) (fun h270 => ?_)
            · exfalso; omega
            · have w271 := zu_w32_id (z := (mh a0 7) + 1) (by omega) (by omega)
              generalize hmm272 : zu_up mh a0 7 (zu_w32 ((mh a0 7) + 1)) = m272
              have hIm272 := zi_up hmm272 hImh hc0 zb_28_7 (by omega) (by omega)
              have hFm272 := zfr_up hmm272 hFmh hc0 rfl
              have hRWDm272 := zR_WD_fr (zdis_fr (zfr_up hmm272 (zfr_rf [(28, 8)] _) hc0 rfl) rfl) hRWDmh
              have r273 : 0 ≤ (m272 a0 7) ∧ (m272 a0 7) ≤ 700 := zi_rd hIm272 hc0 zb_28_7
              have e274 : (m272 a0 7) = (zu_w32 ((mh a0 7) + 1)) := (zs_eq hmm272)
              have r275 : 0 ≤ (m272 a0 6) ∧ (m272 a0 6) ≤ 700 := zi_rd hIm272 hc0 zb_28_6
              have e276 : (m272 a0 6) = (mh a0 6) := (zs_ne hmm272 (Or.inr (by decide)))
              have hRNSm272 := zR_NS_of hc0 (show m272 a0 7 ≤ m272 a0 6 by omega)
              have r277 : 0 ≤ (m272 a0 10) ∧ (m272 a0 10) ≤ 700 := zi_rd hIm272 hc0 zb_28_10
              have e278 : (m272 a0 10) = (mh a0 10) := (zs_ne hmm272 (Or.inr (by decide)))
              have hM : (700 - (m272 a0 7)) * 1 + 701 < (k : Int) := by omega
              exact ih.2.1  m272 hIm272 hFm272 ⟨by omega, by omega⟩ ⟨by omega, by omega⟩ (by omega) (by omega) hRNSm272 hRWDm272 hM
    · intro mh hImh hFmh hg0 hg1 hg2 hg3 hH0 hH1 hH2 hRNSmh hRWDmh hM
      refine zw_eq (zu_rega_at (zt_T n) (zm_89 n) (zdp_89 n) _ _ _ _ _ _ (zr_89_213 n _ _ a0 mh)) ?_
      have r279 : 0 ≤ (mh a0 7) ∧ (mh a0 7) ≤ 700 := zi_rd hImh hc0 zb_28_7
      have s280 := hRNSmh a0 hc0
      refine zw_bd (zw_eq (zu_call_at (zt_T n) (zm_88 n) (zdp_88 n) _ _ _ _ _ rfl (zr_88_0 n _ _ a0 (mh a0 7) mh)) ?_)
      refine zw_ite (fun h281 => ?_) (fun h281 => ?_)
      · refine zw_b (by omega) ?_
        refine zw_some ?_
        refine zw_ite (fun h282 => ?_) (fun h282 => ?_)
        · have hRTRmh := zR_TR_of hc0 (show (mh a0 8 = 5 → (0 ≤ mh a0 9 ∧ mh a0 9 ≤ 5)) ∧ (mh a0 8 = 1 → (0 ≤ mh a0 9 ∧ mh a0 9 ≤ 32)) ∧ (mh a0 8 = 3 → 0 ≤ mh a0 9) by omega)
          exact zw_some ⟨hImh, hFmh, hRNSmh, hRTRmh, hRWDmh, trivial, by omega, by omega⟩
        · exfalso; omega
      · have b283 : 0 ≤ (mh a0 7) ∧ (mh a0 7) < 700 := by omega
        refine zw_if b283 ?_
        have r284 : (-2147483648) ≤ (mh 191 (mh a0 7)) ∧ (mh 191 (mh a0 7)) ≤ 2147483647 := zi_rd hImh zq_191 (zb_100 _)
        refine zw_ite (fun h285 => ?_) (fun h285 => ?_)
        · refine zw_b (by omega) ?_
          refine zw_some ?_
          refine zw_ite (fun h286 => ?_) (fun h286 => ?_)
          · have hRTRmh := zR_TR_of hc0 (show (mh a0 8 = 5 → (0 ≤ mh a0 9 ∧ mh a0 9 ≤ 5)) ∧ (mh a0 8 = 1 → (0 ≤ mh a0 9 ∧ mh a0 9 ≤ 32)) ∧ (mh a0 8 = 3 → 0 ≤ mh a0 9) by omega)
            exact zw_some ⟨hImh, hFmh, hRNSmh, hRTRmh, hRWDmh, trivial, by omega, by omega⟩
          · exfalso; omega
        · have b287 : 0 ≤ (mh a0 7) ∧ (mh a0 7) < 700 := by omega
          refine zw_if b287 ?_
          refine zw_ite (fun h288 => ?_) (fun h288 => ?_)
          · refine zw_b (by omega) ?_
            refine zw_some ?_
            refine zw_ite (fun h289 => ?_) (fun h289 => ?_)
            · have hRTRmh := zR_TR_of hc0 (show (mh a0 8 = 5 → (0 ≤ mh a0 9 ∧ mh a0 9 ≤ 5)) ∧ (mh a0 8 = 1 → (0 ≤ mh a0 9 ∧ mh a0 9 ≤ 32)) ∧ (mh a0 8 = 3 → 0 ≤ mh a0 9) by omega)
              exact zw_some ⟨hImh, hFmh, hRNSmh, hRTRmh, hRWDmh, trivial, by omega, by omega⟩
            · exfalso; omega
          · refine zw_b (by omega) ?_
            refine zw_some ?_
            refine zw_ite (fun h290 => ?_) (fun h290 => ?_)
            · exfalso; omega
            · refine zw_ite (fun h291 => ?_) (fun h291 => ?_)
              · have w292 := zu_w32_id (z := 10 * (mh a0 9)) (by omega) (by omega)
                have b293 : 0 ≤ (mh a0 7) ∧ (mh a0 7) < 700 := by omega
                refine zw_if b293 ?_
                have w294 := zu_w32_id (z := (zu_w32 (10 * (mh a0 9))) + (mh 191 (mh a0 7))) (by omega) (by omega)
                have w295 := zu_w32_id (z := (zu_w32 ((zu_w32 (10 * (mh a0 9))) + (mh 191 (mh a0 7)))) - 48) (by omega) (by omega)
                generalize hmm296 : zu_up mh a0 9 (zu_w32 ((zu_w32 ((zu_w32 (10 * (mh a0 9))) + (mh 191 (mh a0 7)))) - 48)) = m296
                have hIm296 := zi_up hmm296 hImh hc0 zb_28_9 (by omega) (by omega)
                have hFm296 := zfr_up hmm296 hFmh hc0 rfl
                have hRNSm296 := zR_NS_fr (zdis_fr (zfr_up hmm296 (zfr_rf [(28, 10)] _) hc0 rfl) rfl) hRNSmh
                have hRWDm296 := zR_WD_fr (zdis_fr (zfr_up hmm296 (zfr_rf [(28, 10)] _) hc0 rfl) rfl) hRWDmh
                have r297 : 0 ≤ (m296 a0 7) ∧ (m296 a0 7) ≤ 700 := zi_rd hIm296 hc0 zb_28_7
                have e298 : (m296 a0 7) = (mh a0 7) := (zs_ne hmm296 (Or.inr (by decide)))
                have w299 := zu_w32_id (z := (m296 a0 7) + 1) (by omega) (by omega)
                generalize hmm300 : zu_up m296 a0 7 (zu_w32 ((m296 a0 7) + 1)) = m300
                have hIm300 := zi_up hmm300 hIm296 hc0 zb_28_7 (by omega) (by omega)
                have hFm300 := zfr_up hmm300 hFm296 hc0 rfl
                have hRWDm300 := zR_WD_fr (zdis_fr (zfr_up hmm300 (zfr_rf [(28, 8)] _) hc0 rfl) rfl) hRWDm296
                have r301 : 0 ≤ (m300 a0 7) ∧ (m300 a0 7) ≤ 700 := zi_rd hIm300 hc0 zb_28_7
                have e302 : (m300 a0 7) = (zu_w32 ((m296 a0 7) + 1)) := (zs_eq hmm300)
                have r303 : 0 ≤ (m300 a0 6) ∧ (m300 a0 6) ≤ 700 := zi_rd hIm300 hc0 zb_28_6
                have e304 : (m300 a0 6) = (mh a0 6) := (Eq.trans (zs_ne hmm300 (Or.inr (by decide))) (zs_ne hmm296 (Or.inr (by decide))))
                have hRNSm300 := zR_NS_of hc0 (show m300 a0 7 ≤ m300 a0 6 by omega)
                have r305 : 0 ≤ (m300 a0 10) ∧ (m300 a0 10) ≤ 700 := zi_rd hIm300 hc0 zb_28_10
                have e306 : (m300 a0 10) = (mh a0 10) := (Eq.trans (zs_ne hmm300 (Or.inr (by decide))) (zs_ne hmm296 (Or.inr (by decide))))
                have r307 : 0 ≤ (m300 a0 8) ∧ (m300 a0 8) ≤ 6 := zi_rd hIm300 hc0 zb_28_8
                have e308 : (m300 a0 8) = (mh a0 8) := (Eq.trans (zs_ne hmm300 (Or.inr (by decide))) (zs_ne hmm296 (Or.inr (by decide))))
                have r309 : (-2147483648) ≤ (m300 a0 9) ∧ (m300 a0 9) ≤ 2147483647 := zi_rd hIm300 hc0 zb_28_9
                have e310 : (m300 a0 9) = (zu_w32 ((zu_w32 ((zu_w32 (10 * (mh a0 9))) + (mh 191 (mh a0 7)))) - 48)) := (Eq.trans (zs_ne hmm300 (Or.inr (by decide))) (zs_eq hmm296))
                have hM : (700 - (m300 a0 7)) * 1 + 0 < (k : Int) := by omega
                exact ih.2.2  m300 hIm300 hFm300 ⟨by omega, by omega⟩ ⟨by omega, by omega⟩ ⟨by omega, by omega⟩ ⟨by omega, by omega⟩ (by omega) (by omega) (by omega) hRNSm300 hRWDm300 hM
              · generalize hmm311 : zu_up mh a0 9 (mh a0 9) = m311
                have hIm311 := zi_up hmm311 hImh hc0 zb_28_9 (by omega) (by omega)
                have hFm311 := zfr_up hmm311 hFmh hc0 rfl
                have hRNSm311 := zR_NS_fr (zdis_fr (zfr_up hmm311 (zfr_rf [(28, 10)] _) hc0 rfl) rfl) hRNSmh
                have hRWDm311 := zR_WD_fr (zdis_fr (zfr_up hmm311 (zfr_rf [(28, 10)] _) hc0 rfl) rfl) hRWDmh
                have r312 : 0 ≤ (m311 a0 7) ∧ (m311 a0 7) ≤ 700 := zi_rd hIm311 hc0 zb_28_7
                have e313 : (m311 a0 7) = (mh a0 7) := (zs_ne hmm311 (Or.inr (by decide)))
                have w314 := zu_w32_id (z := (m311 a0 7) + 1) (by omega) (by omega)
                generalize hmm315 : zu_up m311 a0 7 (zu_w32 ((m311 a0 7) + 1)) = m315
                have hIm315 := zi_up hmm315 hIm311 hc0 zb_28_7 (by omega) (by omega)
                have hFm315 := zfr_up hmm315 hFm311 hc0 rfl
                have hRWDm315 := zR_WD_fr (zdis_fr (zfr_up hmm315 (zfr_rf [(28, 8)] _) hc0 rfl) rfl) hRWDm311
                have r316 : 0 ≤ (m315 a0 7) ∧ (m315 a0 7) ≤ 700 := zi_rd hIm315 hc0 zb_28_7
                have e317 : (m315 a0 7) = (zu_w32 ((m311 a0 7) + 1)) := (zs_eq hmm315)
                have r318 : 0 ≤ (m315 a0 6) ∧ (m315 a0 6) ≤ 700 := zi_rd hIm315 hc0 zb_28_6
                have e319 : (m315 a0 6) = (mh a0 6) := (Eq.trans (zs_ne hmm315 (Or.inr (by decide))) (zs_ne hmm311 (Or.inr (by decide))))
                have hRNSm315 := zR_NS_of hc0 (show m315 a0 7 ≤ m315 a0 6 by omega)
                have r320 : 0 ≤ (m315 a0 10) ∧ (m315 a0 10) ≤ 700 := zi_rd hIm315 hc0 zb_28_10
                have e321 : (m315 a0 10) = (mh a0 10) := (Eq.trans (zs_ne hmm315 (Or.inr (by decide))) (zs_ne hmm311 (Or.inr (by decide))))
                have r322 : 0 ≤ (m315 a0 8) ∧ (m315 a0 8) ≤ 6 := zi_rd hIm315 hc0 zb_28_8
                have e323 : (m315 a0 8) = (mh a0 8) := (Eq.trans (zs_ne hmm315 (Or.inr (by decide))) (zs_ne hmm311 (Or.inr (by decide))))
                have r324 : (-2147483648) ≤ (m315 a0 9) ∧ (m315 a0 9) ≤ 2147483647 := zi_rd hIm315 hc0 zb_28_9
                have e325 : (m315 a0 9) = (mh a0 9) := (Eq.trans (zs_ne hmm315 (Or.inr (by decide))) (zs_eq hmm311))
                have hM : (700 - (m315 a0 7)) * 1 + 0 < (k : Int) := by omega
                exact ih.2.2  m315 hIm315 hFm315 ⟨by omega, by omega⟩ ⟨by omega, by omega⟩ ⟨by omega, by omega⟩ ⟨by omega, by omega⟩ (by omega) (by omega) (by omega) hRNSm315 hRWDm315 hM
set_option maxHeartbeats 4000000 in
theorem zk_89 (n : Nat) {a0 : Int} {m0 : zu_m} (hIm0 : zi_I m0) (hc0 : zcls a0 = 28)     (hRNSm0 : zR_NS m0) (hRWDm0 : zR_WD m0) : zw (zu_call (zt_T n) 89 [(40, a0)] m0) (fun v m => zi_I m ∧ zfr [(28, 8), (28, 9), (28, 10), (28, 11)] m0 m ∧ zR_NS m ∧ zR_TR m ∧ zR_WD m ∧ True ∧ ((m0 a0 7) ≤ (m a0 7)) ∧ ((m a0 8) = 0 ∨ (m0 a0 7) < (m a0 7))) := by
  have hFm0 : zfr [(28, 8), (28, 9), (28, 10), (28, 11)] m0 m0 := zfr_rf _ _
  have s326 := hRNSm0 a0 hc0
  show zw (zu_ex (zt_T n) 89 0 [(40, a0)] [] m0) _
  have r327 : 0 ≤ (m0 a0 7) ∧ (m0 a0 7) ≤ 700 := zi_rd hIm0 hc0 zb_28_7
  have hM : (700 - (m0 a0 7)) * 1 + 1402 < ((2103 : Nat) : Int) := by omega
  exact (zl_89 n (m0 := m0) hc0 2103).1  m0 hIm0 hFm0 (by omega) hRNSm0 hRWDm0 hM
set_option maxHeartbeats 4000000 in
theorem zk_108 (n : Nat) {a0 a1 : Int} {m0 : zu_m} (hIm0 : zi_I m0) (hc0 : zcls a0 = 28) (ha1 : (-2147483648) ≤ a1 ∧ a1 ≤ 2147483647)     : zw (zu_call (zt_T n) 108 [(40, a0), (0, a1)] m0) (fun v m => zi_I m ∧ zfr [(28, 3)] m0 m ∧ ((-1) ≤ v ∧ v ≤ 3) ∧ (0 ≤ m a0 2 ∧ m a0 2 ≤ 0)) := by
  have hFm0 : zfr [(28, 3)] m0 m0 := zfr_rf _ _
  refine zw_eq (zu_call_at (zt_T n) (zm_108 n) (zdp_108 n) _ _ _ _ _ rfl (zr_108_0 n _ _ a0 a1 m0)) ?_
  generalize hmm1 : zu_up m0 a0 2 0 = m1
  have hIm1 := zi_up hmm1 hIm0 hc0 zb_28_2 (by omega) (by omega)
  have hFm1 := zfr_up hmm1 hFm0 hc0 rfl
  have r2 : 0 ≤ (m1 a0 15) ∧ (m1 a0 15) ≤ 4 := zi_rd hIm1 hc0 zb_28_15
  refine zw_bd (zw_mono (zk_95 n hIm1 zq_200 ⟨by omega, by omega⟩ ⟨by omega, by omega⟩ ⟨by omega, by omega⟩) (fun v4 m3 hqm3 => ?_))
  obtain ⟨hIm3, hfm3, hvm3⟩ := hqm3
  have hFm3 := zfr_tr hFm1 hfm3 rfl
  have r5 : (-2147483648) ≤ (m3 a0 2) ∧ (m3 a0 2) ≤ 2147483647 := zi_rd hIm3 hc0 zb_28_2
  have e6 : (m3 a0 2) = 0 := (Eq.trans (zfr_ap hfm3 hc0 rfl) (zs_eq hmm1))
  exact zw_some ⟨hIm3, hFm3, ⟨by omega, by omega⟩, ⟨by omega, by omega⟩⟩

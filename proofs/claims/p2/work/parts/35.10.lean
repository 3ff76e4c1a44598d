set_option maxHeartbeats 4000000 in
theorem zk_310 (n : Nat) {a0 a1 : Int} {m0 : zu_m} (hIm0 : zi_I m0) (hc0 : zcls a0 = 23) (ha1 : 0 ≤ a1 ∧ a1 ≤ 3)     : zw (zu_call (zt_T n) 310 [(31, a0), (0, a1)] m0) (fun v m => zi_I m ∧ zfr [(23, 5), (81, 0), (82, 0), (83, 0), (84, 0)] m0 m ∧ True) := by
  have hFm0 : zfr [(23, 5), (81, 0), (82, 0), (83, 0), (84, 0)] m0 m0 := zfr_rf _ _
  refine zw_eq (zu_call_at (zt_T n) (zm_310 n) (zdp_310 n) _ _ _ _ _ rfl (zr_310_0 n _ _ a0 a1 m0)) ?_
  refine zw_bd (zw_mono (zk_305 n hIm0 hc0 ⟨by omega, by omega⟩ ⟨by omega, by omega⟩ ⟨by omega, by omega⟩ ⟨by omega, by omega⟩) (fun v2 m1 hqm1 => ?_))
  obtain ⟨hIm1, hfm1, hvm1⟩ := hqm1
  have hFm1 := zfr_tr hFm0 hfm1 rfl
  exact zw_some ⟨hIm1, hFm1, trivial⟩
set_option maxHeartbeats 4000000 in
theorem zl_23 (n : Nat) {a0 a1 : Int} {m0 : zu_m} (hc0 : zcls a0 = 11) (hc1 : zcls a1 = 13)   : ∀ k : Nat, (∀ (x2 : Int) (mh : zu_m), zi_I mh → zfr [(56, 0), (57, 0), (58, 0), (59, 1), (59, 2), (59, 3), (59, 4), (59, 5), (59, 6), (59, 7), (63, 0)] m0 mh → (0 ≤ x2 ∧ x2 ≤ 48) → (zR_K54 mh) → (48 - x2) * 1 + 250 < (k : Int) → zw (zu_ex (zt_T n) 23 2 [(8, a0), (27, a1), (0, x2), (2, 0), (2, 0)] [] mh) (fun v m => zi_I m ∧ zfr [(56, 0), (57, 0), (58, 0), (59, 1), (59, 2), (59, 3), (59, 4), (59, 5), (59, 6), (59, 7), (63, 0)] m0 m ∧ zR_K54 m ∧ True)) ∧ (∀ (x2 : Int) (mh : zu_m), zi_I mh → zfr [(56, 0), (57, 0), (58, 0), (59, 1), (59, 2), (59, 3), (59, 4), (59, 5), (59, 6), (59, 7), (63, 0)] m0 mh → (0 ≤ x2 ∧ x2 ≤ 4) → (zR_K54 mh) → (4 - x2) * 50 + 49 < (k : Int) → zw (zu_ex (zt_T n) 23 72 [(8, a0), (27, a1), (0, x2), (2, 0), (2, 0)] [] mh) (fun v m => zi_I m ∧ zfr [(56, 0), (57, 0), (58, 0), (59, 1), (59, 2), (59, 3), (59, 4), (59, 5), (59, 6), (59, 7), (63, 0)] m0 m ∧ zR_K54 m ∧ True)) ∧ (∀ (x2 x3 : Int) (mh : zu_m), zi_I mh → zfr [(56, 0), (57, 0), (58, 0), (59, 1), (59, 2), (59, 3), (59, 4), (59, 5), (59, 6), (59, 7), (63, 0)] m0 mh → (0 ≤ x2 ∧ x2 ≤ 3) → (0 ≤ x3 ∧ x3 ≤ 48) → (1 ≤ mh a1 4 ∧ mh a1 4 ≤ 4) → (zR_K54 mh) → (48 - x3) * 1 + (4 - x2) * 50 + 0 < (k : Int) → zw (zu_ex (zt_T n) 23 82 [(8, a0), (27, a1), (0, x2), (0, x3), (2, 0)] [] mh) (fun v m => zi_I m ∧ zfr [(56, 0), (57, 0), (58, 0), (59, 1), (59, 2), (59, 3), (59, 4), (59, 5), (59, 6), (59, 7), (63, 0)] m0 m ∧ zR_K54 m ∧ True)) := by
  intro k
  induction k with
  | zero => exact ⟨fun x2 mh hImh hFmh hbx2 hRK54mh hM => by exfalso; omega, fun x2 mh hImh hFmh hbx2 hRK54mh hM => by exfalso; omega, fun x2 x3 mh hImh hFmh hbx2 hbx3 hg2 hRK54mh hM => by exfalso; omega⟩
  | succ k ih =>
    refine ⟨?_, ?_, ?_⟩
    · intro x2 mh hImh hFmh hbx2 hRK54mh hM
      refine zw_eq (zu_rega_at (zt_T n) (zm_23 n) (zdp_23 n) _ _ _ _ _ _ (zr_23_2 n _ _ a0 a1 x2 mh)) ?_
      have r1 : 1 ≤ (mh a0 2) ∧ (mh a0 2) ≤ 48 := zi_rd hImh hc0 zb_11_2
      refine zw_ite (fun h2 => ?_) (fun h2 => ?_)
      · have hM : (4 - 0) * 50 + 49 < (k : Int) := by omega
        exact ih.2.1 0 mh hImh hFmh ⟨by omega, by omega⟩ hRK54mh hM
      · refine zw_bd (zw_mono (zk_24 n hImh hc0 ⟨by omega, by omega⟩ hRK54mh) (fun v4 m3 hqm3 => ?_))
        obtain ⟨hIm3, hfm3, hvm3⟩ := hqm3
        have hFm3 := zfr_tr hFmh hfm3 rfl
        obtain ⟨hRK54m3, hvm3⟩ := hvm3
        have c5 := zu_lcmp_sp v4 (-9223372036854775808)
        refine zw_ite (fun h6 => ?_) (fun h6 => ?_)
        · refine zw_bd (zw_eq (zu_call_at (zt_T n) (zm_253 n) (zdp_253 n) _ _ _ _ _ rfl (zr_253_0 n _ _ v4 999 m3)) ?_)
          have k7 := zmin_bd 999 v4
          have k8 := zmax_bd 0 (zu_min 999 v4)
          have w9 := zu_w32_id (z := (zu_max 0 (zu_min 999 v4))) (by omega) (by omega)
          refine zw_some ?_
          have b10 : 0 ≤ x2 ∧ x2 < 48 := by omega
          refine zw_if b10 ?_
          generalize hmm11 : zu_up m3 (a0 + 10) x2 (zu_w32 (zu_max 0 (zu_min 999 v4))) = m11
          have hIm11 := zi_up hmm11 hIm3 (zc_11_10 hc0) (zb_57 _) (by omega) (by omega)
          have hFm11 := zfr_up hmm11 hFm3 (zc_11_10 hc0) rfl
          have hRK54m11 := zR_K54_fr (zdis_fr (zfr_up hmm11 (zfr_rf [(57, 0)] _) (zc_11_10 hc0) rfl) rfl) hRK54m3
          have b12 : 0 ≤ x2 ∧ x2 < 48 := by omega
          refine zw_if b12 ?_
          have r13 : 0 ≤ (m11 (a0 + 10) x2) ∧ (m11 (a0 + 10) x2) ≤ 999 := zi_rd hIm11 (zc_11_10 hc0) (zb_57 _)
          have e14 : (m11 (a0 + 10) x2) = (zu_w32 (zu_max 0 (zu_min 999 v4))) := (zs_eq hmm11)
          have w15 := zu_w32_id (z := (m11 (a0 + 10) x2) * 1000) (by omega) (by omega)
          have b16 : 0 ≤ x2 ∧ x2 < 48 := by omega
          refine zw_if b16 ?_
          generalize hmm17 : zu_up m11 (a1 + 4) x2 (zu_w32 ((m11 (a0 + 10) x2) * 1000)) = m17
          have hIm17 := zi_up hmm17 hIm11 (zc_13_6 hc1) (zb_63 _) (by omega) (by omega)
          have hFm17 := zfr_up hmm17 hFm11 (zc_13_6 hc1) rfl
          have hRK54m17 := zR_K54_fr (zdis_fr (zfr_up hmm17 (zfr_rf [(63, 0)] _) (zc_13_6 hc1) rfl) rfl) hRK54m11
          have w18 := zu_w32_id (z := x2 + 1) (by omega) (by omega)
          have hM : (48 - (zu_w32 (x2 + 1))) * 1 + 250 < (k : Int) := by omega
          exact zw_le (zu_forget (zu_lr_same (zu_lr_same (zu_lr_same (zu_lr_drop (zu_lr_same zu_lr_nil)))))) (ih.1 (zu_w32 (x2 + 1)) m17 hIm17 hFm17 ⟨by omega, by omega⟩ hRK54m17 hM)
        · have b19 : 0 ≤ x2 ∧ x2 < 48 := by omega
          refine zw_if b19 ?_
          have r20 : 0 ≤ (m3 (a0 + 3) x2) ∧ (m3 (a0 + 3) x2) ≤ 3 := zi_rd hIm3 (zc_11_8 hc0) (zb_51 _)
          have w21 := zu_w32_id (z := 1 + (m3 (a0 + 3) x2)) (by omega) (by omega)
          have b22 : 0 ≤ x2 ∧ x2 < 48 := by omega
          refine zw_if b22 ?_
          generalize hmm23 : zu_up m3 (a0 + 10) x2 (zu_w32 (1 + (m3 (a0 + 3) x2))) = m23
          have hIm23 := zi_up hmm23 hIm3 (zc_11_10 hc0) (zb_57 _) (by omega) (by omega)
          have hFm23 := zfr_up hmm23 hFm3 (zc_11_10 hc0) rfl
          have hRK54m23 := zR_K54_fr (zdis_fr (zfr_up hmm23 (zfr_rf [(57, 0)] _) (zc_11_10 hc0) rfl) rfl) hRK54m3
          have b24 : 0 ≤ x2 ∧ x2 < 48 := by omega
          refine zw_if b24 ?_
          have r25 : 0 ≤ (m23 (a0 + 10) x2) ∧ (m23 (a0 + 10) x2) ≤ 999 := zi_rd hIm23 (zc_11_10 hc0) (zb_57 _)
          have e26 : (m23 (a0 + 10) x2) = (zu_w32 (1 + (m3 (a0 + 3) x2))) := (zs_eq hmm23)
          have w27 := zu_w32_id (z := (m23 (a0 + 10) x2) * 1000) (by omega) (by omega)
          have b28 : 0 ≤ x2 ∧ x2 < 48 := by omega
          refine zw_if b28 ?_
          generalize hmm29 : zu_up m23 (a1 + 4) x2 (zu_w32 ((m23 (a0 + 10) x2) * 1000)) = m29
          have hIm29 := zi_up hmm29 hIm23 (zc_13_6 hc1) (zb_63 _) (by omega) (by omega)
          have hFm29 := zfr_up hmm29 hFm23 (zc_13_6 hc1) rfl
          have hRK54m29 := zR_K54_fr (zdis_fr (zfr_up hmm29 (zfr_rf [(63, 0)] _) (zc_13_6 hc1) rfl) rfl) hRK54m23
          have w30 := zu_w32_id (z := x2 + 1) (by omega) (by omega)
          have hM : (48 - (zu_w32 (x2 + 1))) * 1 + 250 < (k : Int) := by omega
          exact zw_le (zu_forget (zu_lr_same (zu_lr_same (zu_lr_same (zu_lr_drop (zu_lr_same zu_lr_nil)))))) (ih.1 (zu_w32 (x2 + 1)) m29 hIm29 hFm29 ⟨by omega, by omega⟩ hRK54m29 hM)
    · intro x2 mh hImh hFmh hbx2 hRK54mh hM
      refine zw_eq (zu_rega_at (zt_T n) (zm_23 n) (zdp_23 n) _ _ _ _ _ _ (zr_23_72 n _ _ a0 a1 x2 mh)) ?_
      have r31 : 0 ≤ (mh a1 4) ∧ (mh a1 4) ≤ 4 := zi_rd hImh hc1 zb_13_4
      refine zw_ite (fun h32 => ?_) (fun h32 => ?_)
      · exact zw_some ⟨hImh, hFmh, hRK54mh, trivial⟩
      · have hM : (48 - 0) * 1 + (4 - x2) * 50 + 0 < (k : Int) := by omega
        exact ih.2.2 x2 0 mh hImh hFmh ⟨by omega, by omega⟩ ⟨by omega, by omega⟩ ⟨by omega, by omega⟩ hRK54mh hM
    · intro x2 x3 mh hImh hFmh hbx2 hbx3 hg2 hRK54mh hM
      refine zw_eq (zu_rega_at (zt_T n) (zm_23 n) (zdp_23 n) _ _ _ _ _ _ (zr_23_82 n _ _ a0 a1 x2 x3 mh)) ?_
      have r33 : 1 ≤ (mh a0 2) ∧ (mh a0 2) ≤ 48 := zi_rd hImh hc0 zb_11_2
      refine zw_ite (fun h34 => ?_) (fun h34 => ?_)
      · have w35 := zu_w32_id (z := x2 + 1) (by omega) (by omega)
        have hM : (4 - (zu_w32 (x2 + 1))) * 50 + 49 < (k : Int) := by omega
        exact zw_le (zu_forget (zu_lr_same (zu_lr_same (zu_lr_same (zu_lr_drop (zu_lr_same zu_lr_nil)))))) (ih.2.1 (zu_w32 (x2 + 1)) mh hImh hFmh ⟨by omega, by omega⟩ hRK54mh hM)
      · refine zw_bd (zw_mono (zk_25 n hImh hc0 ⟨by omega, by omega⟩ ⟨by omega, by omega⟩ ⟨by omega, by omega⟩) (fun v37 m36 hqm36 => ?_))
        obtain ⟨hIm36, hfm36, hvm36⟩ := hqm36
        have hFm36 := zfr_tr hFmh hfm36 rfl
        have hRK54m36 := zR_K54_fr (zdis_fr hfm36 rfl) hRK54mh
        have b38 : 0 ≤ x2 ∧ x2 < 4 := by omega
        refine zw_if b38 ?_
        have r39 : 0 ≤ (m36 ((a1 + 2) + 20 + x2) 2) ∧ (m36 ((a1 + 2) + 20 + x2) 2) ≤ 15 := zi_rd hIm36 (zc_61_e (zc_13_3 hc1) b38) zb_15_2
        refine zw_bd (zw_mono (zk_247 n hIm36 hc0 ⟨by omega, by omega⟩ ⟨by omega, by omega⟩ ⟨by omega, by omega⟩) (fun v41 m40 hqm40 => ?_))
        obtain ⟨hIm40, hfm40, hvm40⟩ := hqm40
        have hFm40 := zfr_tr hFm36 hfm40 rfl
        have hRK54m40 := zR_K54_fr (zdis_fr hfm40 rfl) hRK54m36
        have w42 := zu_w32_id (z := x2 * 48) (by omega) (by omega)
        have w43 := zu_w32_id (z := (zu_w32 (x2 * 48)) + x3) (by omega) (by omega)
        refine zw_bd (zw_mono (zk_250 n hIm40 hc0 hRK54m40) (fun v45 m44 hqm44 => ?_))
        obtain ⟨hIm44, hfm44, hvm44⟩ := hqm44
        have hFm44 := zfr_tr hFm40 hfm44 rfl
        obtain ⟨hRK54m44, hvm44⟩ := hvm44
        have w46 := zu_w32_id (z := 100 - v45) (by omega) (by omega)
        have b47 : 0 ≤ (zu_w32 ((zu_w32 (x2 * 48)) + x3)) ∧ (zu_w32 ((zu_w32 (x2 * 48)) + x3)) < 192 := by omega
        refine zw_if b47 ?_
        generalize hmm48 : zu_up m44 (a0 + 11) (zu_w32 ((zu_w32 (x2 * 48)) + x3)) (zu_w32 (100 - v45)) = m48
        have hIm48 := zi_up hmm48 hIm44 (zc_11_11 hc0) (zb_58 _) (by omega) (by omega)
        have hFm48 := zfr_up hmm48 hFm44 (zc_11_11 hc0) rfl
        have hRK54m48 := zR_K54_fr (zdis_fr (zfr_up hmm48 (zfr_rf [(58, 0)] _) (zc_11_11 hc0) rfl) rfl) hRK54m44
        have w49 := zu_w32_id (z := x3 + 1) (by omega) (by omega)
        have r50 : 0 ≤ (m48 a1 4) ∧ (m48 a1 4) ≤ 4 := zi_rd hIm48 hc1 zb_13_4
        have e51 : (m48 a1 4) = (mh a1 4) := (Eq.trans (zs_ne hmm48 (Or.inl (zc_ne hc1 (zc_11_11 hc0) (by decide)))) (Eq.trans (zfr_ap hfm44 hc1 rfl) (Eq.trans (zfr_ap hfm40 hc1 rfl) (zfr_ap hfm36 hc1 rfl))))
        have hM : (48 - (zu_w32 (x3 + 1))) * 1 + (4 - x2) * 50 + 0 < (k : Int) := by omega
        exact ih.2.2 x2 (zu_w32 (x3 + 1)) m48 hIm48 hFm48 ⟨by omega, by omega⟩ ⟨by omega, by omega⟩ ⟨by omega, by omega⟩ hRK54m48 hM
set_option maxHeartbeats 4000000 in
theorem zk_23 (n : Nat) {a0 a1 : Int} {m0 : zu_m} (hIm0 : zi_I m0) (hc0 : zcls a0 = 11) (hc1 : zcls a1 = 13)     (hRK54m0 : zR_K54 m0) : zw (zu_call (zt_T n) 23 [(8, a0), (27, a1)] m0) (fun v m => zi_I m ∧ zfr [(56, 0), (57, 0), (58, 0), (59, 1), (59, 2), (59, 3), (59, 4), (59, 5), (59, 6), (59, 7), (63, 0)] m0 m ∧ zR_K54 m ∧ True) := by
  have hFm0 : zfr [(56, 0), (57, 0), (58, 0), (59, 1), (59, 2), (59, 3), (59, 4), (59, 5), (59, 6), (59, 7), (63, 0)] m0 m0 := zfr_rf _ _
  refine zw_eq (zu_call_at (zt_T n) (zm_23 n) (zdp_23 n) _ _ _ _ _ rfl (zr_23_0 n _ _ a0 a1 m0)) ?_
  have hM : (48 - 0) * 1 + 250 < ((299 : Nat) : Int) := by omega
  exact (zl_23 n (m0 := m0) hc0 hc1 299).1 0 m0 hIm0 hFm0 ⟨by omega, by omega⟩ hRK54m0 hM
set_option maxHeartbeats 4000000 in
theorem zk_39 (n : Nat) {a0 a1 a2 a3 : Int} {m0 : zu_m} (hIm0 : zi_I m0) (hc0 : zcls a0 = 28) (ha1 : 0 ≤ a1 ∧ a1 ≤ 3) (ha2 : (-2147483648) ≤ a2 ∧ a2 ≤ 2147483647) (ha3 : 100 ≤ a3 ∧ a3 ≤ 999)    (hRKNm0 : zR_KN m0) : zw (zu_call (zt_T n) 39 [(40, a0), (0, a1), (0, a2), (0, a3)] m0) (fun v m => zi_I m ∧ zfr [(28, 54), (123, 0)] m0 m ∧ zR_KN m ∧ ((-2147483648) ≤ v ∧ v ≤ 2147483647)) := by
  have hFm0 : zfr [(28, 54), (123, 0)] m0 m0 := zfr_rf _ _
  refine zw_eq (zu_call_at (zt_T n) (zm_39 n) (zdp_39 n) _ _ _ _ _ rfl (zr_39_0 n _ _ a0 a1 a2 a3 m0)) ?_
  have b1 : 0 ≤ a1 ∧ a1 < 8 := by omega
  refine zw_if b1 ?_
  have r2 : 0 ≤ (m0 205 a1) ∧ (m0 205 a1) ≤ 1 := zi_rd hIm0 zq_205 (zb_114 _)
  refine zw_ite (fun h3 => ?_) (fun h3 => ?_)
  · refine zw_bd (zw_mono (zk_127 n hIm0 hc0 ⟨by omega, by omega⟩ hRKNm0) (fun v5 m4 hqm4 => ?_))
    obtain ⟨hIm4, hfm4, hvm4⟩ := hqm4
    have hFm4 := zfr_tr hFm0 hfm4 rfl
    obtain ⟨hRKNm4, hvm4⟩ := hvm4
    have r6 : 0 ≤ (m4 a0 53) ∧ (m4 a0 53) ≤ 1 := zi_rd hIm4 hc0 zb_28_53
    refine zw_ite (fun h7 => ?_) (fun h7 => ?_)
    · have c8 := zu_lcmp_sp v5 0
      refine zw_ite (fun h9 => ?_) (fun h9 => ?_)
      · have c10 := zu_lcmp_sp v5 a3
        refine zw_ite (fun h11 => ?_) (fun h11 => ?_)
        · have w12 := zu_w32_id (z := v5) (by omega) (by omega)
          exact zw_some ⟨hIm4, hFm4, hRKNm4, ⟨by omega, by omega⟩⟩
        · exact zw_some ⟨hIm4, hFm4, hRKNm4, ⟨by omega, by omega⟩⟩
      · exact zw_some ⟨hIm4, hFm4, hRKNm4, ⟨by omega, by omega⟩⟩
    · exact zw_some ⟨hIm4, hFm4, hRKNm4, ⟨by omega, by omega⟩⟩
  · exact zw_some ⟨hIm0, hFm0, hRKNm0, ⟨by omega, by omega⟩⟩
set_option maxHeartbeats 4000000 in
theorem zk_50 (n : Nat) {a0 a1 a2 a3 : Int} {m0 : zu_m} (hIm0 : zi_I m0) (hc0 : zcls a0 = 2) (ha1 : (-2147483648) ≤ a1 ∧ a1 ≤ 2147483647) (ha2 : (-2147483648) ≤ a2 ∧ a2 ≤ 2147483647) (ha3 : (-2147483648) ≤ a3 ∧ a3 ≤ 2147483647)     : zw (zu_call (zt_T n) 50 [(5, a0), (0, a1), (0, a2), (0, a3)] m0) (fun v m => zi_I m ∧ zfr [(16, 3), (17, 1), (17, 2), (17, 3), (17, 4), (23, 5), (81, 0), (82, 0), (83, 0), (84, 0)] m0 m ∧ ((-1) ≤ v ∧ v ≤ 15)) := by
  have hFm0 : zfr [(16, 3), (17, 1), (17, 2), (17, 3), (17, 4), (23, 5), (81, 0), (82, 0), (83, 0), (84, 0)] m0 m0 := zfr_rf _ _
  refine zw_eq (zu_call_at (zt_T n) (zm_50 n) (zdp_50 n) _ _ _ _ _ rfl (zr_50_0 n _ _ a0 a1 a2 a3 m0)) ?_
  refine zw_bd (zw_eq (zu_call_at (zt_T n) (zm_244 n) (zdp_244 n) _ _ _ _ _ rfl (zr_244_0 n _ _ 50 a1 m0)) ?_)
  refine zw_ite (fun h1 => ?_) (fun h1 => ?_)
  · refine zw_b (by omega) ?_
    refine zw_some ?_
    refine zw_ite (fun h2 => ?_) (fun h2 => ?_)
    · exact zw_some ⟨hIm0, hFm0, ⟨by omega, by omega⟩⟩
    · exfalso; omega
  · have r3 : 1 ≤ (m0 50 2) ∧ (m0 50 2) ≤ 48 := zi_rd hIm0 zq_50 zb_11_2
    refine zw_ite (fun h4 => ?_) (fun h4 => ?_)
    · refine zw_b (by omega) ?_
      refine zw_some ?_
      refine zw_ite (fun h5 => ?_) (fun h5 => ?_)
      · exact zw_some ⟨hIm0, hFm0, ⟨by omega, by omega⟩⟩
      · exfalso; omega
    · refine zw_b (by omega) ?_
      refine zw_some ?_
      refine zw_ite (fun h6 => ?_) (fun h6 => ?_)
      · exfalso; omega
      · refine zw_bd (zw_eq (zu_call_at (zt_T n) (zm_51 n) (zdp_51 n) _ _ _ _ _ rfl (zr_51_0 n _ _ a2 m0)) ?_)
        refine zw_ite (fun h7 => ?_) (fun h7 => ?_)
        · refine zw_b (by omega) ?_
          refine zw_some ?_
          refine zw_ite (fun h8 => ?_) (fun h8 => ?_)
          · exact zw_some ⟨hIm0, hFm0, ⟨by omega, by omega⟩⟩
          · exfalso; omega
        · refine zw_ite (fun h9 => ?_) (fun h9 => ?_)
          · refine zw_b (by omega) ?_
            refine zw_some ?_
            refine zw_ite (fun h10 => ?_) (fun h10 => ?_)
            · exact zw_some ⟨hIm0, hFm0, ⟨by omega, by omega⟩⟩
            · exfalso; omega
          · refine zw_b (by omega) ?_
            refine zw_some ?_
            refine zw_ite (fun h11 => ?_) (fun h11 => ?_)
            · exfalso; omega
            · refine zw_bd (zw_eq (zu_call_at (zt_T n) (zm_52 n) (zdp_52 n) _ _ _ _ _ rfl (zr_52_0 n _ _ a3 m0)) ?_)
              refine zw_ite (fun h12 => ?_) (fun h12 => ?_)
              · refine zw_b (by omega) ?_
                refine zw_some ?_
                refine zw_ite (fun h13 => ?_) (fun h13 => ?_)
                · exact zw_some ⟨hIm0, hFm0, ⟨by omega, by omega⟩⟩
                · exfalso; omega
              · refine zw_ite (fun h14 => ?_) (fun h14 => ?_)
                · refine zw_b (by omega) ?_
                  refine zw_some ?_
                  refine zw_ite (fun h15 => ?_) (fun h15 => ?_)
                  · exact zw_some ⟨hIm0, hFm0, ⟨by omega, by omega⟩⟩
                  · exfalso; omega
                · refine zw_b (by omega) ?_
                  refine zw_some ?_
                  refine zw_ite (fun h16 => ?_) (fun h16 => ?_)
                  · exfalso; omega
                  · have r17 : 0 ≤ (m0 89 2) ∧ (m0 89 2) ≤ 16 := zi_rd hIm0 zq_89 zb_16_2
                    refine zw_ite (fun h18 => ?_) (fun h18 => ?_)
                    · refine zw_bd (zw_eq (zu_call_at (zt_T n) (zm_213 n) (zdp_213 n) _ _ _ _ _ rfl (zr_213_0 n _ _ 89 a1 a2 a3 m0)) ?_)
                      refine zw_ite (fun h19 => ?_) (fun h19 => ?_)
                      · exfalso; omega
                      · have b20 : 0 ≤ (m0 89 2) ∧ (m0 89 2) < 16 := by omega
                        refine zw_if b20 ?_
                        generalize hmm21 : zu_up m0 ((89 + 1) + 5 + (m0 89 2)) 0 a1 = m21
                        have hIm21 := zi_up hmm21 hIm0 (zc_65_e (zc_16_1 zq_89) b20) zb_17_0 (by omega) (by omega)
                        have hFm21 := zfr_up hmm21 hFm0 (zc_65_e (zc_16_1 zq_89) b20) rfl
                        generalize hmm22 : zu_up m21 ((89 + 1) + 5 + (m0 89 2)) 1 a2 = m22
                        have hIm22 := zi_up hmm22 hIm21 (zc_65_e (zc_16_1 zq_89) b20) zb_17_1 (by omega) (by omega)
                        have hFm22 := zfr_up hmm22 hFm21 (zc_65_e (zc_16_1 zq_89) b20) rfl
                        generalize hmm23 : zu_up m22 ((89 + 1) + 5 + (m0 89 2)) 2 a3 = m23
                        have hIm23 := zi_up hmm23 hIm22 (zc_65_e (zc_16_1 zq_89) b20) zb_17_2 (by omega) (by omega)
                        have hFm23 := zfr_up hmm23 hFm22 (zc_65_e (zc_16_1 zq_89) b20) rfl
                        generalize hmm24 : zu_up m23 ((89 + 1) + 5 + (m0 89 2)) 3 (-1) = m24
                        have hIm24 := zi_up hmm24 hIm23 (zc_65_e (zc_16_1 zq_89) b20) zb_17_3 (by omega) (by omega)
                        have hFm24 := zfr_up hmm24 hFm23 (zc_65_e (zc_16_1 zq_89) b20) rfl
                        have r25 : 0 ≤ (m24 89 2) ∧ (m24 89 2) ≤ 16 := zi_rd hIm24 zq_89 zb_16_2
                        have e26 : (m24 89 2) = (m0 89 2) := (Eq.trans (zs_ne hmm24 (Or.inl (zc_ne zq_89 (zc_65_e (zc_16_1 zq_89) b20) (by decide)))) (Eq.trans (zs_ne hmm23 (Or.inl (zc_ne zq_89 (zc_65_e (zc_16_1 zq_89) b20) (by decide)))) (Eq.trans (zs_ne hmm22 (Or.inl (zc_ne zq_89 (zc_65_e (zc_16_1 zq_89) b20) (by decide)))) (zs_ne hmm21 (Or.inl (zc_ne zq_89 (zc_65_e (zc_16_1 zq_89) b20) (by decide)))))))
                        have w27 := zu_w32_id (z := (m24 89 2) + 1) (by omega) (by omega)
                        generalize hmm28 : zu_up m24 89 2 (zu_w32 ((m24 89 2) + 1)) = m28
                        have hIm28 := zi_up hmm28 hIm24 zq_89 zb_16_2 (by omega) (by omega)
                        have hFm28 := zfr_up hmm28 hFm24 zq_89 rfl
                        refine zw_some ?_
                        refine zw_bd (zw_mono (zk_307 n hIm28 zq_148) (fun v30 m29 hqm29 => ?_))
                        obtain ⟨hIm29, hfm29, hvm29⟩ := hqm29
                        have hFm29 := zfr_tr hFm28 hfm29 rfl
                        exact zw_some ⟨hIm29, hFm29, ⟨by omega, by omega⟩⟩
                    · exact zw_some ⟨hIm0, hFm0, ⟨by omega, by omega⟩⟩
set_option maxHeartbeats 4000000 in
theorem zk_54 (n : Nat) {a0 : Int} {m0 : zu_m} (hIm0 : zi_I m0) (hc0 : zcls a0 = 2)      : zw (zu_call (zt_T n) 54 [(5, a0)] m0) (fun v m => zi_I m ∧ zfr [(16, 3), (23, 5), (81, 0), (82, 0), (83, 0), (84, 0)] m0 m ∧ (0 ≤ v ∧ v ≤ 1)) := by
  have hFm0 : zfr [(16, 3), (23, 5), (81, 0), (82, 0), (83, 0), (84, 0)] m0 m0 := zfr_rf _ _
  refine zw_eq (zu_call_at (zt_T n) (zm_54 n) (zdp_54 n) _ _ _ _ _ rfl (zr_54_0 n _ _ a0 m0)) ?_
  have r1 : 0 ≤ (m0 89 2) ∧ (m0 89 2) ≤ 16 := zi_rd hIm0 zq_89 zb_16_2
  have r2 : 0 ≤ (m0 63 2) ∧ (m0 63 2) ≤ 16 := zi_rd hIm0 zq_63 zb_13_2
  refine zw_ite (fun h3 => ?_) (fun h3 => ?_)
  · have w4 := zu_w32_id (z := (m0 89 2) - 1) (by omega) (by omega)
    have b5 : 0 ≤ (zu_w32 ((m0 89 2) - 1)) ∧ (zu_w32 ((m0 89 2) - 1)) < 16 := by omega
    refine zw_if b5 ?_
    have r6 : (-3) ≤ (m0 ((89 + 1) + 5 + (zu_w32 ((m0 89 2) - 1))) 3) ∧ (m0 ((89 + 1) + 5 + (zu_w32 ((m0 89 2) - 1))) 3) ≤ 3 := zi_rd hIm0 (zc_65_e (zc_16_1 zq_89) b5) zb_17_3
    refine zw_ite (fun h7 => ?_) (fun h7 => ?_)
    · refine zw_bd (zw_mono (zk_308 n hIm0 zq_148 (zc_65_e (zc_16_1 zq_89) b5)) (fun v9 m8 hqm8 => ?_))
      obtain ⟨hIm8, hfm8, hvm8⟩ := hqm8
      have hFm8 := zfr_tr hFm0 hfm8 rfl
      have r10 : 0 ≤ (m8 89 2) ∧ (m8 89 2) ≤ 16 := zi_rd hIm8 zq_89 zb_16_2
      have e11 : (m8 89 2) = (m0 89 2) := (zfr_ap hfm8 zq_89 rfl)
      have w12 := zu_w32_id (z := (m8 89 2) - 1) (by omega) (by omega)
      generalize hmm13 : zu_up m8 89 2 (zu_w32 ((m8 89 2) - 1)) = m13
      have hIm13 := zi_up hmm13 hIm8 zq_89 zb_16_2 (by omega) (by omega)
      have hFm13 := zfr_up hmm13 hFm8 zq_89 rfl
      refine zw_b (by omega) ?_
      exact zw_some ⟨hIm13, hFm13, ⟨by omega, by omega⟩⟩
    · refine zw_b (by omega) ?_
      exact zw_some ⟨hIm0, hFm0, ⟨by omega, by omega⟩⟩
  · refine zw_b (by omega) ?_
    exact zw_some ⟨hIm0, hFm0, ⟨by omega, by omega⟩⟩
set_option maxHeartbeats 4000000 in
theorem zk_55 (n : Nat) {a0 a1 a2 : Int} {m0 : zu_m} (hIm0 : zi_I m0) (hc0 : zcls a0 = 2) (ha1 : (-2147483648) ≤ a1 ∧ a1 ≤ 2147483647) (ha2 : (-2147483648) ≤ a2 ∧ a2 ≤ 2147483647)     : zw (zu_call (zt_T n) 55 [(5, a0), (0, a1), (0, a2)] m0) (fun v m => zi_I m ∧ zfr [(18, 2), (23, 5), (81, 0), (82, 0), (83, 0), (84, 0)] m0 m ∧ (0 ≤ v ∧ v ≤ 1)) := by
  have hFm0 : zfr [(18, 2), (23, 5), (81, 0), (82, 0), (83, 0), (84, 0)] m0 m0 := zfr_rf _ _
  refine zw_eq (zu_call_at (zt_T n) (zm_55 n) (zdp_55 n) _ _ _ _ _ rfl (zr_55_0 n _ _ a0 a1 a2 m0)) ?_
  refine zw_bd (zw_eq (zu_call_at (zt_T n) (zm_211 n) (zdp_211 n) _ _ _ _ _ rfl (zr_211_0 n _ _ 89 a1 m0)) ?_)
  refine zw_ite (fun h1 => ?_) (fun h1 => ?_)
  · refine zw_b (by omega) ?_
    refine zw_some ?_
    refine zw_ite (fun h2 => ?_) (fun h2 => ?_)
    · refine zw_b (by omega) ?_
      exact zw_some ⟨hIm0, hFm0, ⟨by omega, by omega⟩⟩
    · exfalso; omega
  · have r3 : 0 ≤ (m0 89 4) ∧ (m0 89 4) ≤ 4 := zi_rd hIm0 zq_89 zb_16_4
    refine zw_ite (fun h4 => ?_) (fun h4 => ?_)
    · refine zw_b (by omega) ?_
      refine zw_some ?_
      refine zw_ite (fun h5 => ?_) (fun h5 => ?_)
      · refine zw_b (by omega) ?_
        exact zw_some ⟨hIm0, hFm0, ⟨by omega, by omega⟩⟩
      · exfalso; omega
    · refine zw_b (by omega) ?_
      refine zw_some ?_
      refine zw_ite (fun h6 => ?_) (fun h6 => ?_)
      · exfalso; omega
      · refine zw_bd (zw_eq (zu_call_at (zt_T n) (zm_244 n) (zdp_244 n) _ _ _ _ _ rfl (zr_244_0 n _ _ 50 a2 m0)) ?_)
        refine zw_ite (fun h7 => ?_) (fun h7 => ?_)
        · refine zw_b (by omega) ?_
          refine zw_some ?_
          refine zw_ite (fun h8 => ?_) (fun h8 => ?_)
          · exfalso; omega
          · refine zw_b (by omega) ?_
            exact zw_some ⟨hIm0, hFm0, ⟨by omega, by omega⟩⟩
        · have r9 : 1 ≤ (m0 50 2) ∧ (m0 50 2) ≤ 48 := zi_rd hIm0 zq_50 zb_11_2
          refine zw_ite (fun h10 => ?_) (fun h10 => ?_)
          · refine zw_b (by omega) ?_
            refine zw_some ?_
            refine zw_ite (fun h11 => ?_) (fun h11 => ?_)
            · exfalso; omega
            · refine zw_b (by omega) ?_
              exact zw_some ⟨hIm0, hFm0, ⟨by omega, by omega⟩⟩
          · refine zw_b (by omega) ?_
            refine zw_some ?_
            refine zw_ite (fun h12 => ?_) (fun h12 => ?_)
            · have b13 : 0 ≤ a1 ∧ a1 < 4 := by omega
              refine zw_if b13 ?_
              have r14 : 0 ≤ (m0 ((89 + 2) + 20 + a1) 1) ∧ (m0 ((89 + 2) + 20 + a1) 1) ≤ 47 := zi_rd hIm0 (zc_66_e (zc_16_3 zq_89) b13) zb_18_1
              refine zw_ite (fun h15 => ?_) (fun h15 => ?_)
              · refine zw_bd (zw_mono (zk_309 n hIm0 zq_148 ⟨by omega, by omega⟩ ⟨by omega, by omega⟩) (fun v17 m16 hqm16 => ?_))
                obtain ⟨hIm16, hfm16, hvm16⟩ := hqm16
                have hFm16 := zfr_tr hFm0 hfm16 rfl
                generalize hmm18 : zu_up m16 ((89 + 2) + 20 + a1) 1 a2 = m18
                have hIm18 := zi_up hmm18 hIm16 (zc_66_e (zc_16_3 zq_89) b13) zb_18_1 (by omega) (by omega)
                have hFm18 := zfr_up hmm18 hFm16 (zc_66_e (zc_16_3 zq_89) b13) rfl
                refine zw_b (by omega) ?_
                exact zw_some ⟨hIm18, hFm18, ⟨by omega, by omega⟩⟩
              · refine zw_b (by omega) ?_
                exact zw_some ⟨hIm0, hFm0, ⟨by omega, by omega⟩⟩
            · exfalso; omega
set_option maxHeartbeats 4000000 in
theorem zk_56 (n : Nat) {a0 a1 : Int} {m0 : zu_m} (hIm0 : zi_I m0) (hc0 : zcls a0 = 2) (ha1 : (-2147483648) ≤ a1 ∧ a1 ≤ 2147483647)     : zw (zu_call (zt_T n) 56 [(5, a0), (0, a1)] m0) (fun v m => zi_I m ∧ zfr [(16, 11), (23, 5), (81, 0), (82, 0), (83, 0), (84, 0)] m0 m ∧ (0 ≤ v ∧ v ≤ 1)) := by
  have hFm0 : zfr [(16, 11), (23, 5), (81, 0), (82, 0), (83, 0), (84, 0)] m0 m0 := zfr_rf _ _
  refine zw_eq (zu_call_at (zt_T n) (zm_56 n) (zdp_56 n) _ _ _ _ _ rfl (zr_56_0 n _ _ a0 a1 m0)) ?_
  refine zw_ite (fun h1 => ?_) (fun h1 => ?_)
  · refine zw_b (by omega) ?_
    exact zw_some ⟨hIm0, hFm0, ⟨by omega, by omega⟩⟩
  · refine zw_ite (fun h2 => ?_) (fun h2 => ?_)
    · refine zw_b (by omega) ?_
      exact zw_some ⟨hIm0, hFm0, ⟨by omega, by omega⟩⟩
    · have r3 : 0 ≤ (m0 89 10) ∧ (m0 89 10) ≤ 3 := zi_rd hIm0 zq_89 zb_16_10
      refine zw_ite (fun h4 => ?_) (fun h4 => ?_)
      · refine zw_bd (zw_mono (zk_310 n hIm0 zq_148 ⟨by omega, by omega⟩) (fun v6 m5 hqm5 => ?_))
        obtain ⟨hIm5, hfm5, hvm5⟩ := hqm5
        have hFm5 := zfr_tr hFm0 hfm5 rfl
        generalize hmm7 : zu_up m5 89 10 a1 = m7
        have hIm7 := zi_up hmm7 hIm5 zq_89 zb_16_10 (by omega) (by omega)
        have hFm7 := zfr_up hmm7 hFm5 zq_89 rfl
        refine zw_b (by omega) ?_
        exact zw_some ⟨hIm7, hFm7, ⟨by omega, by omega⟩⟩
      · refine zw_b (by omega) ?_
        exact zw_some ⟨hIm0, hFm0, ⟨by omega, by omega⟩⟩
set_option maxHeartbeats 4000000 in
theorem zk_60 (n : Nat) {a0 a1 a2 : Int} {m0 : zu_m} (hIm0 : zi_I m0) (hc0 : zcls a0 = 2) (ha1 : (-2147483648) ≤ a1 ∧ a1 ≤ 2147483647) (ha2 : (-2147483648) ≤ a2 ∧ a2 ≤ 2147483647)     : zw (zu_call (zt_T n) 60 [(5, a0), (0, a1), (0, a2)] m0) (fun v m => zi_I m ∧ zfr [(25, 3), (25, 5), (25, 9), (25, 10), (25, 11), (25, 12), (26, 1), (26, 2), (26, 3), (26, 4), (27, 1), (27, 2), (27, 3), (27, 4), (27, 5), (27, 6), (27, 7), (27, 8), (97, 0), (98, 0)] m0 m ∧ ((-1) ≤ v ∧ v ≤ 40)) := by
  have hFm0 : zfr [(25, 3), (25, 5), (25, 9), (25, 10), (25, 11), (25, 12), (26, 1), (26, 2), (26, 3), (26, 4), (27, 1), (27, 2), (27, 3), (27, 4), (27, 5), (27, 6), (27, 7), (27, 8), (97, 0), (98, 0)] m0 m0 := zfr_rf _ _
  refine zw_eq (zu_call_at (zt_T n) (zm_60 n) (zdp_60 n) _ _ _ _ _ rfl (zr_60_0 n _ _ a0 a1 a2 m0)) ?_
  refine zw_bd (zw_eq (zu_call_at (zt_T n) (zm_211 n) (zdp_211 n) _ _ _ _ _ rfl (zr_211_0 n _ _ 89 a1 m0)) ?_)
  refine zw_ite (fun h1 => ?_) (fun h1 => ?_)
  · refine zw_b (by omega) ?_
    refine zw_some ?_
    refine zw_ite (fun h2 => ?_) (fun h2 => ?_)
    · exact zw_some ⟨hIm0, hFm0, ⟨by omega, by omega⟩⟩
    · exfalso; omega
  · have r3 : 0 ≤ (m0 89 4) ∧ (m0 89 4) ≤ 4 := zi_rd hIm0 zq_89 zb_16_4
    refine zw_ite (fun h4 => ?_) (fun h4 => ?_)
    · refine zw_b (by omega) ?_
      refine zw_some ?_
      refine zw_ite (fun h5 => ?_) (fun h5 => ?_)
      · exact zw_some ⟨hIm0, hFm0, ⟨by omega, by omega⟩⟩
      · exfalso; omega
    · refine zw_b (by omega) ?_
      refine zw_some ?_
      refine zw_ite (fun h6 => ?_) (fun h6 => ?_)
      · exfalso; omega
      · refine zw_ite (fun h7 => ?_) (fun h7 => ?_)
        · exact zw_some ⟨hIm0, hFm0, ⟨by omega, by omega⟩⟩
        · refine zw_ite (fun h8 => ?_) (fun h8 => ?_)
          · refine zw_bd (zw_mono (zk_284 n hIm0 zq_153 ⟨by omega, by omega⟩ ⟨by omega, by omega⟩) (fun v10 m9 hqm9 => ?_))
            obtain ⟨hIm9, hfm9, hvm9⟩ := hqm9
            have hFm9 := zfr_tr hFm0 hfm9 rfl
            exact zw_some ⟨hIm9, hFm9, ⟨by omega, by omega⟩⟩
          · exact zw_some ⟨hIm0, hFm0, ⟨by omega, by omega⟩⟩
set_option maxHeartbeats 4000000 in
theorem zk_65 (n : Nat) {a0 : Int} {m0 : zu_m} (hIm0 : zi_I m0) (hc0 : zcls a0 = 2)      : zw (zu_call (zt_T n) 65 [(5, a0)] m0) (fun v m => zi_I m ∧ zfr [(24, 19), (93, 0), (94, 0)] m0 m ∧ (0 ≤ v ∧ v ≤ 16)) := by
  have hFm0 : zfr [(24, 19), (93, 0), (94, 0)] m0 m0 := zfr_rf _ _
  refine zw_eq (zu_call_at (zt_T n) (zm_65 n) (zdp_65 n) _ _ _ _ _ rfl (zr_65_0 n _ _ a0 m0)) ?_
  refine zw_bd (zw_mono (zk_294 n hIm0 zq_153) (fun v2 m1 hqm1 => ?_))
  obtain ⟨hIm1, hfm1, hvm1⟩ := hqm1
  have hFm1 := zfr_tr hFm0 hfm1 rfl
  exact zw_some ⟨hIm1, hFm1, ⟨by omega, by omega⟩⟩
set_option maxHeartbeats 4000000 in
theorem zk_66 (n : Nat) {a0 a1 : Int} {m0 : zu_m} (hIm0 : zi_I m0) (hc0 : zcls a0 = 2) (ha1 : (-2147483648) ≤ a1 ∧ a1 ≤ 2147483647)     : zw (zu_call (zt_T n) 66 [(5, a0), (0, a1)] m0) (fun v m => zi_I m ∧ zfr [(24, 19), (93, 0), (94, 0)] m0 m ∧ ((-2147483648) ≤ v ∧ v ≤ 2147483647)) := by
  have hFm0 : zfr [(24, 19), (93, 0), (94, 0)] m0 m0 := zfr_rf _ _
  refine zw_eq (zu_call_at (zt_T n) (zm_66 n) (zdp_66 n) _ _ _ _ _ rfl (zr_66_0 n _ _ a0 a1 m0)) ?_
  refine zw_ite (fun h1 => ?_) (fun h1 => ?_)
  · refine zw_bd (zw_mono (zk_294 n hIm0 zq_153) (fun v3 m2 hqm2 => ?_))
    obtain ⟨hIm2, hfm2, hvm2⟩ := hqm2
    have hFm2 := zfr_tr hFm0 hfm2 rfl
    refine zw_ite (fun h4 => ?_) (fun h4 => ?_)
    · exact zw_some ⟨hIm2, hFm2, ⟨by omega, by omega⟩⟩
    · have b5 : 0 ≤ a1 ∧ a1 < 16 := by omega
      refine zw_if b5 ?_
      have r6 : (-2147483648) ≤ (m2 163 a1) ∧ (m2 163 a1) ≤ 2147483647 := zi_rd hIm2 zq_163 (zb_94 _)
      exact zw_some ⟨hIm2, hFm2, ⟨by omega, by omega⟩⟩
  · exact zw_some ⟨hIm0, hFm0, ⟨by omega, by omega⟩⟩
set_option maxHeartbeats 4000000 in
theorem zk_99 (n : Nat) {a0 : Int} {m0 : zu_m} (hIm0 : zi_I m0) (hc0 : zcls a0 = 28)     (hRNSm0 : zR_NS m0) (hRWDm0 : zR_WD m0) : zw (zu_call (zt_T n) 99 [(40, a0)] m0) (fun v m => zi_I m ∧ zfr [(28, 5), (28, 6), (28, 8), (28, 9), (28, 10), (28, 11), (28, 12), (28, 18), (28, 19), (102, 0)] m0 m ∧ zR_NS m ∧ zR_WD m ∧ (0 ≤ v ∧ v ≤ 1) ∧ ((m0 a0 7) ≤ (m a0 7)) ∧ (v = 1 → ((m a0 8) = 0 ∨ (m0 a0 7) < (m a0 7)))) := by
  have hFm0 : zfr [(28, 5), (28, 6), (28, 8), (28, 9), (28, 10), (28, 11), (28, 12), (28, 18), (28, 19), (102, 0)] m0 m0 := zfr_rf _ _
  have s1 := hRNSm0 a0 hc0
  refine zw_eq (zu_call_at (zt_T n) (zm_99 n) (zdp_99 n) _ _ _ _ _ rfl (zr_99_0 n _ _ a0 m0)) ?_
  have b2 : 0 ≤ (0 : Int) ∧ (0 : Int) < 6 := by omega
  refine zw_if b2 ?_
  have r3 : 0 ≤ (m0 193 0) ∧ (m0 193 0) ≤ 1 := zi_rd hIm0 zq_193 (zb_102 _)
  refine zw_ite (fun h4 => ?_) (fun h4 => ?_)
  · have r5 : 0 ≤ (m0 a0 23) ∧ (m0 a0 23) ≤ 1 := zi_rd hIm0 hc0 zb_28_23
    refine zw_ite (fun h6 => ?_) (fun h6 => ?_)
    · refine zw_b (by omega) ?_
      have b7 : 0 ≤ (0 : Int) ∧ (0 : Int) < 6 := by omega
      refine zw_if b7 ?_
      generalize hmm8 : zu_up m0 193 0 1 = m8
      have hIm8 := zi_up hmm8 hIm0 zq_193 (zb_102 _) (by omega) (by omega)
      have hFm8 := zfr_up hmm8 hFm0 zq_193 rfl
      have hRNSm8 := zR_NS_fr (zdis_fr (zfr_up hmm8 (zfr_rf [(102, 0)] _) zq_193 rfl) rfl) hRNSm0
      have hRWDm8 := zR_WD_fr (zdis_fr (zfr_up hmm8 (zfr_rf [(102, 0)] _) zq_193 rfl) rfl) hRWDm0
      refine zw_bd (zw_mono (zk_89 n hIm8 hc0 hRNSm8 hRWDm8) (fun v10 m9 hqm9 => ?_))
      obtain ⟨hIm9, hfm9, hvm9⟩ := hqm9
      have hFm9 := zfr_tr hFm8 hfm9 rfl
      obtain ⟨hRNSm9, hRTRm9, hRWDm9, hvm9⟩ := hvm9
      have s11 := hRNSm9 a0 hc0
      have s12 := hRTRm9 a0 hc0
      refine zw_bd (zw_eq (zu_call_at (zt_T n) (zm_94 n) (zdp_94 n) _ _ _ _ _ rfl (zr_94_0 n _ _ a0 1 8 m9)) ?_)
      have r13 : 0 ≤ (m9 a0 8) ∧ (m9 a0 8) ≤ 6 := zi_rd hIm9 hc0 zb_28_8
      refine zw_ite (fun h14 => ?_) (fun h14 => ?_)
      · refine zw_bd (zw_eq (zu_call_at (zt_T n) (zm_83 n) (zdp_83 n) _ _ _ _ _ rfl (zr_83_0 n _ _ (m9 a0 9) 1 8 m9)) ?_)
        refine zw_ite (fun h15 => ?_) (fun h15 => ?_)
        · refine zw_b (by omega) ?_
          refine zw_some ?_
          refine zw_ite (fun h16 => ?_) (fun h16 => ?_)
          · exfalso; omega
          · refine zw_bd (zw_eq (zu_call_at (zt_T n) (zm_85 n) (zdp_85 n) _ _ _ _ _ rfl (zr_85_0 n _ _ a0 2 m9)) ?_)
            generalize hmm17 : zu_up m9 a0 4 2 = m17
            have hIm17 := zi_up hmm17 hIm9 hc0 zb_28_4 (by omega) (by omega)
            have hFm17 := zfr_up hmm17 hFm9 hc0 rfl
            have hRNSm17 := zR_NS_fr (zdis_fr (zfr_up hmm17 (zfr_rf [(28, 5)] _) hc0 rfl) rfl) hRNSm9
            have hRTRm17 := zR_TR_fr (zdis_fr (zfr_up hmm17 (zfr_rf [(28, 5)] _) hc0 rfl) rfl) hRTRm9
            have hRWDm17 := zR_WD_fr (zdis_fr (zfr_up hmm17 (zfr_rf [(28, 5)] _) hc0 rfl) rfl) hRWDm9
            have r18 : 0 ≤ (m17 a0 10) ∧ (m17 a0 10) ≤ 700 := zi_rd hIm17 hc0 zb_28_10
            generalize hmm19 : zu_up m17 a0 5 (m17 a0 10) = m19
            have hIm19 := zi_up hmm19 hIm17 hc0 zb_28_5 (by omega) (by omega)
            have hFm19 := zfr_up hmm19 hFm17 hc0 rfl
            have hRNSm19 := zR_NS_fr (zdis_fr (zfr_up hmm19 (zfr_rf [(28, 6)] _) hc0 rfl) rfl) hRNSm17
            have hRTRm19 := zR_TR_fr (zdis_fr (zfr_up hmm19 (zfr_rf [(28, 6)] _) hc0 rfl) rfl) hRTRm17
            have hRWDm19 := zR_WD_fr (zdis_fr (zfr_up hmm19 (zfr_rf [(28, 6)] _) hc0 rfl) rfl) hRWDm17
            refine zw_b (by omega) ?_
            refine zw_some ?_
            refine zw_b (by omega) ?_
            refine zw_some ?_
            refine zw_ite (fun h20 => ?_) (fun h20 => ?_)
            · exfalso; omega
            · refine zw_b (by omega) ?_
              have r21 : 0 ≤ (m19 a0 7) ∧ (m19 a0 7) ≤ 700 := zi_rd hIm19 hc0 zb_28_7
              have r22 : 0 ≤ (m19 a0 8) ∧ (m19 a0 8) ≤ 6 := zi_rd hIm19 hc0 zb_28_8
              have e23 : (m19 a0 8) = (m9 a0 8) := (Eq.trans (zs_ne hmm19 (Or.inr (by decide))) (zs_ne hmm17 (Or.inr (by decide))))
              exact zw_some ⟨hIm19, hFm19, hRNSm19, hRWDm19, ⟨by omega, by omega⟩, by omega, by omega⟩
        · refine zw_ite (fun h24 => ?_) (fun h24 => ?_)
          · refine zw_b (by omega) ?_
            refine zw_some ?_
            refine zw_ite (fun h25 => ?_) (fun h25 => ?_)
            · exfalso; omega
            · refine zw_bd (zw_eq (zu_call_at (zt_T n) (zm_85 n) (zdp_85 n) _ _ _ _ _ rfl (zr_85_0 n _ _ a0 2 m9)) ?_)
              generalize hmm26 : zu_up m9 a0 4 2 = m26
              have hIm26 := zi_up hmm26 hIm9 hc0 zb_28_4 (by omega) (by omega)
              have hFm26 := zfr_up hmm26 hFm9 hc0 rfl
              have hRNSm26 := zR_NS_fr (zdis_fr (zfr_up hmm26 (zfr_rf [(28, 5)] _) hc0 rfl) rfl) hRNSm9
              have hRTRm26 := zR_TR_fr (zdis_fr (zfr_up hmm26 (zfr_rf [(28, 5)] _) hc0 rfl) rfl) hRTRm9
              have hRWDm26 := zR_WD_fr (zdis_fr (zfr_up hmm26 (zfr_rf [(28, 5)] _) hc0 rfl) rfl) hRWDm9
              have r27 : 0 ≤ (m26 a0 10) ∧ (m26 a0 10) ≤ 700 := zi_rd hIm26 hc0 zb_28_10
              generalize hmm28 : zu_up m26 a0 5 (m26 a0 10) = m28
              have hIm28 := zi_up hmm28 hIm26 hc0 zb_28_5 (by omega) (by omega)
              have hFm28 := zfr_up hmm28 hFm26 hc0 rfl
              have hRNSm28 := zR_NS_fr (zdis_fr (zfr_up hmm28 (zfr_rf [(28, 6)] _) hc0 rfl) rfl) hRNSm26
              have hRTRm28 := zR_TR_fr (zdis_fr (zfr_up hmm28 (zfr_rf [(28, 6)] _) hc0 rfl) rfl) hRTRm26
              have hRWDm28 := zR_WD_fr (zdis_fr (zfr_up hmm28 (zfr_rf [(28, 6)] _) hc0 rfl) rfl) hRWDm26
              refine zw_b (by omega) ?_
              refine zw_some ?_
              refine zw_b (by omega) ?_
              refine zw_some ?_
              refine zw_ite (fun h29 => ?_) (fun h29 => ?_)
              · exfalso; omega
              · refine zw_b (by omega) ?_
                have r30 : 0 ≤ (m28 a0 7) ∧ (m28 a0 7) ≤ 700 := zi_rd hIm28 hc0 zb_28_7
                have r31 : 0 ≤ (m28 a0 8) ∧ (m28 a0 8) ≤ 6 := zi_rd hIm28 hc0 zb_28_8
                have e32 : (m28 a0 8) = (m9 a0 8) := (Eq.trans (zs_ne hmm28 (Or.inr (by decide))) (zs_ne hmm26 (Or.inr (by decide))))
                exact zw_some ⟨hIm28, hFm28, hRNSm28, hRWDm28, ⟨by omega, by omega⟩, by omega, by omega⟩
          · refine zw_b (by omega) ?_
            refine zw_some ?_
            refine zw_ite (fun h33 => ?_) (fun h33 => ?_)
            · generalize hmm34 : zu_up m9 a0 11 (m9 a0 9) = m34
              have hIm34 := zi_up hmm34 hIm9 hc0 zb_28_11 (by omega) (by omega)
              have hFm34 := zfr_up hmm34 hFm9 hc0 rfl
              have hRNSm34 := zR_NS_fr (zdis_fr (zfr_up hmm34 (zfr_rf [(28, 12)] _) hc0 rfl) rfl) hRNSm9
              have hRTRm34 := zR_TR_fr (zdis_fr (zfr_up hmm34 (zfr_rf [(28, 12)] _) hc0 rfl) rfl) hRTRm9
              have hRWDm34 := zR_WD_fr (zdis_fr (zfr_up hmm34 (zfr_rf [(28, 12)] _) hc0 rfl) rfl) hRWDm9
              refine zw_bd (zw_mono (zk_89 n hIm34 hc0 hRNSm34 hRWDm34) (fun v36 m35 hqm35 => ?_))
              obtain ⟨hIm35, hfm35, hvm35⟩ := hqm35
              have hFm35 := zfr_tr hFm34 hfm35 rfl
              obtain ⟨hRNSm35, hRTRm35, hRWDm35, hvm35⟩ := hvm35
              have s37 := hRNSm35 a0 hc0
              have s38 := hRTRm35 a0 hc0
              refine zw_b (by omega) ?_
              refine zw_some ?_
              refine zw_ite (fun h39 => ?_) (fun h39 => ?_)
              · have r40 : (-2147483648) ≤ (m35 a0 11) ∧ (m35 a0 11) ≤ 2147483647 := zi_rd hIm35 hc0 zb_28_11
                have e41 : (m35 a0 11) = (m9 a0 9) := (Eq.trans (zfr_ap hfm35 hc0 rfl) (zs_eq hmm34))
                generalize hmm42 : zu_up m35 a0 17 (m35 a0 11) = m42
                have hIm42 := zi_up hmm42 hIm35 hc0 zb_28_17 (by omega) (by omega)
                have hFm42 := zfr_up hmm42 hFm35 hc0 rfl
                have hRNSm42 := zR_NS_fr (zdis_fr (zfr_up hmm42 (zfr_rf [(28, 18)] _) hc0 rfl) rfl) hRNSm35
                have hRTRm42 := zR_TR_fr (zdis_fr (zfr_up hmm42 (zfr_rf [(28, 18)] _) hc0 rfl) rfl) hRTRm35
                have hRWDm42 := zR_WD_fr (zdis_fr (zfr_up hmm42 (zfr_rf [(28, 18)] _) hc0 rfl) rfl) hRWDm35
                refine zw_bd (zw_eq (zu_call_at (zt_T n) (zm_94 n) (zdp_94 n) _ _ _ _ _ rfl (zr_94_0 n _ _ a0 1 6 m42)) ?_)
                have r43 : 0 ≤ (m42 a0 8) ∧ (m42 a0 8) ≤ 6 := zi_rd hIm42 hc0 zb_28_8
                refine zw_ite (fun h44 => ?_) (fun h44 => ?_)
                · have r45 : (-2147483648) ≤ (m42 a0 9) ∧ (m42 a0 9) ≤ 2147483647 := zi_rd hIm42 hc0 zb_28_9
                  refine zw_bd (zw_eq (zu_call_at (zt_T n) (zm_83 n) (zdp_83 n) _ _ _ _ _ rfl (zr_83_0 n _ _ (m42 a0 9) 1 6 m42)) ?_)
                  refine zw_ite (fun h46 => ?_) (fun h46 => ?_)
                  · refine zw_b (by omega) ?_
                    refine zw_some ?_
                    refine zw_ite (fun h47 => ?_) (fun h47 => ?_)
                    · exfalso; omega
                    · refine zw_bd (zw_eq (zu_call_at (zt_T n) (zm_85 n) (zdp_85 n) _ _ _ _ _ rfl (zr_85_0 n _ _ a0 2 m42)) ?_)
                      generalize hmm48 : zu_up m42 a0 4 2 = m48
                      have hIm48 := zi_up hmm48 hIm42 hc0 zb_28_4 (by omega) (by omega)
                      have hFm48 := zfr_up hmm48 hFm42 hc0 rfl
                      have hRNSm48 := zR_NS_fr (zdis_fr (zfr_up hmm48 (zfr_rf [(28, 5)] _) hc0 rfl) rfl) hRNSm42
                      have hRTRm48 := zR_TR_fr (zdis_fr (zfr_up hmm48 (zfr_rf [(28, 5)] _) hc0 rfl) rfl) hRTRm42
                      have hRWDm48 := zR_WD_fr (zdis_fr (zfr_up hmm48 (zfr_rf [(28, 5)] _) hc0 rfl) rfl) hRWDm42
                      have r49 : 0 ≤ (m48 a0 10) ∧ (m48 a0 10) ≤ 700 := zi_rd hIm48 hc0 zb_28_10
                      generalize hmm50 : zu_up m48 a0 5 (m48 a0 10) = m50
                      have hIm50 := zi_up hmm50 hIm48 hc0 zb_28_5 (by omega) (by omega)
                      have hFm50 := zfr_up hmm50 hFm48 hc0 rfl
                      have hRNSm50 := zR_NS_fr (zdis_fr (zfr_up hmm50 (zfr_rf [(28, 6)] _) hc0 rfl) rfl) hRNSm48
                      have hRTRm50 := zR_TR_fr (zdis_fr (zfr_up hmm50 (zfr_rf [(28, 6)] _) hc0 rfl) rfl) hRTRm48
                      have hRWDm50 := zR_WD_fr (zdis_fr (zfr_up hmm50 (zfr_rf [(28, 6)] _) hc0 rfl) rfl) hRWDm48
                      refine zw_b (by omega) ?_
                      refine zw_some ?_
                      refine zw_b (by omega) ?_
                      refine zw_some ?_
                      refine zw_ite (fun h51 => ?_) (fun h51 => ?_)
                      · exfalso; omega
                      · refine zw_b (by omega) ?_
                        have r52 : 0 ≤ (m50 a0 7) ∧ (m50 a0 7) ≤ 700 := zi_rd hIm50 hc0 zb_28_7
                        have r53 : 0 ≤ (m50 a0 8) ∧ (m50 a0 8) ≤ 6 := zi_rd hIm50 hc0 zb_28_8
                        have e54 : (m50 a0 8) = (m42 a0 8) := (Eq.trans (zs_ne hmm50 (Or.inr (by decide))) (zs_ne hmm48 (Or.inr (by decide))))
                        exact zw_some ⟨hIm50, hFm50, hRNSm50, hRWDm50, ⟨by omega, by omega⟩, by omega, by omega⟩
                  · refine zw_ite (fun h55 => ?_) (fun h55 => ?_)
                    · refine zw_b (by omega) ?_
                      refine zw_some ?_
                      refine zw_ite (fun h56 => ?_) (fun h56 => ?_)
                      · exfalso; omega
                      · refine zw_bd (zw_eq (zu_call_at (zt_T n) (zm_85 n) (zdp_85 n) _ _ _ _ _ rfl (zr_85_0 n _ _ a0 2 m42)) ?_)
                        generalize hmm57 : zu_up m42 a0 4 2 = m57
                        have hIm57 := zi_up hmm57 hIm42 hc0 zb_28_4 (by omega) (by omega)
                        have hFm57 := zfr_up hmm57 hFm42 hc0 rfl
                        have hRNSm57 := zR_NS_fr (zdis_fr (zfr_up hmm57 (zfr_rf [(28, 5)] _) hc0 rfl) rfl) hRNSm42
                        have hRTRm57 := zR_TR_fr (zdis_fr (zfr_up hmm57 (zfr_rf [(28, 5)] _) hc0 rfl) rfl) hRTRm42
                        have hRWDm57 := zR_WD_fr (zdis_fr (zfr_up hmm57 (zfr_rf [(28, 5)] _) hc0 rfl) rfl) hRWDm42
                        have r58 : 0 ≤ (m57 a0 10) ∧ (m57 a0 10) ≤ 700 := zi_rd hIm57 hc0 zb_28_10
                        generalize hmm59 : zu_up m57 a0 5 (m57 a0 10) = m59
                        have hIm59 := zi_up hmm59 hIm57 hc0 zb_28_5 (by omega) (by omega)
                        have hFm59 := zfr_up hmm59 hFm57 hc0 rfl
                        have hRNSm59 := zR_NS_fr (zdis_fr (zfr_up hmm59 (zfr_rf [(28, 6)] _) hc0 rfl) rfl) hRNSm57
                        have hRTRm59 := zR_TR_fr (zdis_fr (zfr_up hmm59 (zfr_rf [(28, 6)] _) hc0 rfl) rfl) hRTRm57
                        have hRWDm59 := zR_WD_fr (zdis_fr (zfr_up hmm59 (zfr_rf [(28, 6)] _) hc0 rfl) rfl) hRWDm57
                        refine zw_b (by omega) ?_
                        refine zw_some ?_
                        refine zw_b (by omega) ?_
                        refine zw_some ?_
                        refine zw_ite (fun h60 => ?_) (fun h60 => ?_)
                        · exfalso; omega
                        · refine zw_b (by omega) ?_
                          have r61 : 0 ≤ (m59 a0 7) ∧ (m59 a0 7) ≤ 700 := zi_rd hIm59 hc0 zb_28_7
                          have r62 : 0 ≤ (m59 a0 8) ∧ (m59 a0 8) ≤ 6 := zi_rd hIm59 hc0 zb_28_8
                          have e63 : (m59 a0 8) = (m42 a0 8) := (Eq.trans (zs_ne hmm59 (Or.inr (by decide))) (zs_ne hmm57 (Or.inr (by decide))))
                          exact zw_some ⟨hIm59, hFm59, hRNSm59, hRWDm59, ⟨by omega, by omega⟩, by omega, by omega⟩
                    · refine zw_b (by omega) ?_
                      refine zw_some ?_
                      refine zw_ite (fun h64 => ?_) (fun h64 => ?_)
                      · generalize hmm65 : zu_up m42 a0 11 (m42 a0 9) = m65
                        have hIm65 := zi_up hmm65 hIm42 hc0 zb_28_11 (by omega) (by omega)
                        have hFm65 := zfr_up hmm65 hFm42 hc0 rfl
                        have hRNSm65 := zR_NS_fr (zdis_fr (zfr_up hmm65 (zfr_rf [(28, 12)] _) hc0 rfl) rfl) hRNSm42
                        have hRTRm65 := zR_TR_fr (zdis_fr (zfr_up hmm65 (zfr_rf [(28, 12)] _) hc0 rfl) rfl) hRTRm42
                        have hRWDm65 := zR_WD_fr (zdis_fr (zfr_up hmm65 (zfr_rf [(28, 12)] _) hc0 rfl) rfl) hRWDm42
                        refine zw_bd (zw_mono (zk_89 n hIm65 hc0 hRNSm65 hRWDm65) (fun v67 m66 hqm66 => ?_))
                        obtain ⟨hIm66, hfm66, hvm66⟩ := hqm66
                        have hFm66 := zfr_tr hFm65 hfm66 rfl
                        obtain ⟨hRNSm66, hRTRm66, hRWDm66, hvm66⟩ := hvm66
                        have s68 := hRNSm66 a0 hc0
                        have s69 := hRTRm66 a0 hc0
                        refine zw_b (by omega) ?_
                        refine zw_some ?_
                        refine zw_ite (fun h70 => ?_) (fun h70 => ?_)
                        · have r71 : (-2147483648) ≤ (m66 a0 11) ∧ (m66 a0 11) ≤ 2147483647 := zi_rd hIm66 hc0 zb_28_11
                          have e72 : (m66 a0 11) = (m42 a0 9) := (Eq.trans (zfr_ap hfm66 hc0 rfl) (zs_eq hmm65))
                          generalize hmm73 : zu_up m66 a0 18 (m66 a0 11) = m73
                          have hIm73 := zi_up hmm73 hIm66 hc0 zb_28_18 (by omega) (by omega)
                          have hFm73 := zfr_up hmm73 hFm66 hc0 rfl
                          have hRNSm73 := zR_NS_fr (zdis_fr (zfr_up hmm73 (zfr_rf [(28, 19)] _) hc0 rfl) rfl) hRNSm66
                          have hRTRm73 := zR_TR_fr (zdis_fr (zfr_up hmm73 (zfr_rf [(28, 19)] _) hc0 rfl) rfl) hRTRm66
                          have hRWDm73 := zR_WD_fr (zdis_fr (zfr_up hmm73 (zfr_rf [(28, 19)] _) hc0 rfl) rfl) hRWDm66
                          refine zw_b (by omega) ?_
                          have r74 : 0 ≤ (m73 a0 7) ∧ (m73 a0 7) ≤ 700 := zi_rd hIm73 hc0 zb_28_7
                          have r75 : 0 ≤ (m73 a0 8) ∧ (m73 a0 8) ≤ 6 := zi_rd hIm73 hc0 zb_28_8
                          exact zw_some ⟨hIm73, hFm73, hRNSm73, hRWDm73, ⟨by omega, by omega⟩, by omega, by omega⟩
                        · exfalso; omega
                      · exfalso; omega
                · refine zw_bd (zw_eq (zu_call_at (zt_T n) (zm_85 n) (zdp_85 n) _ _ _ _ _ rfl (zr_85_0 n _ _ a0 1 m42)) ?_)
                  generalize hmm76 : zu_up m42 a0 4 1 = m76
                  have hIm76 := zi_up hmm76 hIm42 hc0 zb_28_4 (by omega) (by omega)
                  have hFm76 := zfr_up hmm76 hFm42 hc0 rfl
                  have hRNSm76 := zR_NS_fr (zdis_fr (zfr_up hmm76 (zfr_rf [(28, 5)] _) hc0 rfl) rfl) hRNSm42
                  have hRTRm76 := zR_TR_fr (zdis_fr (zfr_up hmm76 (zfr_rf [(28, 5)] _) hc0 rfl) rfl) hRTRm42
                  have hRWDm76 := zR_WD_fr (zdis_fr (zfr_up hmm76 (zfr_rf [(28, 5)] _) hc0 rfl) rfl) hRWDm42
                  have r77 : 0 ≤ (m76 a0 10) ∧ (m76 a0 10) ≤ 700 := zi_rd hIm76 hc0 zb_28_10
                  generalize hmm78 : zu_up m76 a0 5 (m76 a0 10) = m78
                  have hIm78 := zi_up hmm78 hIm76 hc0 zb_28_5 (by omega) (by omega)
                  have hFm78 := zfr_up hmm78 hFm76 hc0 rfl
                  have hRNSm78 := zR_NS_fr (zdis_fr (zfr_up hmm78 (zfr_rf [(28, 6)] _) hc0 rfl) rfl) hRNSm76
                  have hRTRm78 := zR_TR_fr (zdis_fr (zfr_up hmm78 (zfr_rf [(28, 6)] _) hc0 rfl) rfl) hRTRm76
                  have hRWDm78 := zR_WD_fr (zdis_fr (zfr_up hmm78 (zfr_rf [(28, 6)] _) hc0 rfl) rfl) hRWDm76
                  refine zw_b (by omega) ?_
                  refine zw_some ?_
                  refine zw_b (by omega) ?_
                  refine zw_some ?_
                  refine zw_ite (fun h79 => ?_) (fun h79 => ?_)
                  · exfalso; omega
                  · refine zw_b (by omega) ?_
                    have r80 : 0 ≤ (m78 a0 7) ∧ (m78 a0 7) ≤ 700 := zi_rd hIm78 hc0 zb_28_7
                    have r81 : 0 ≤ (m78 a0 8) ∧ (m78 a0 8) ≤ 6 := zi_rd hIm78 hc0 zb_28_8
                    have e82 : (m78 a0 8) = (m42 a0 8) := (Eq.trans (zs_ne hmm78 (Or.inr (by decide))) (zs_ne hmm76 (Or.inr (by decide))))
                    exact zw_some ⟨hIm78, hFm78, hRNSm78, hRWDm78, ⟨by omega, by omega⟩, by omega, by omega⟩
              · exfalso; omega
            · exfalso; omega
      · refine zw_bd (zw_eq (zu_call_at (zt_T n) (zm_85 n) (zdp_85 n) _ _ _ _ _ rfl (zr_85_0 n _ _ a0 1 m9)) ?_)
        generalize hmm83 : zu_up m9 a0 4 1 = m83
        have hIm83 := zi_up hmm83 hIm9 hc0 zb_28_4 (by omega) (by omega)
        have hFm83 := zfr_up hmm83 hFm9 hc0 rfl
        have hRNSm83 := zR_NS_fr (zdis_fr (zfr_up hmm83 (zfr_rf [(28, 5)] _) hc0 rfl) rfl) hRNSm9
        have hRTRm83 := zR_TR_fr (zdis_fr (zfr_up hmm83 (zfr_rf [(28, 5)] _) hc0 rfl) rfl) hRTRm9
        have hRWDm83 := zR_WD_fr (zdis_fr (zfr_up hmm83 (zfr_rf [(28, 5)] _) hc0 rfl) rfl) hRWDm9
        have r84 : 0 ≤ (m83 a0 10) ∧ (m83 a0 10) ≤ 700 := zi_rd hIm83 hc0 zb_28_10
        generalize hmm85 : zu_up m83 a0 5 (m83 a0 10) = m85
        have hIm85 := zi_up hmm85 hIm83 hc0 zb_28_5 (by omega) (by omega)
        have hFm85 := zfr_up hmm85 hFm83 hc0 rfl
        have hRNSm85 := zR_NS_fr (zdis_fr (zfr_up hmm85 (zfr_rf [(28, 6)] _) hc0 rfl) rfl) hRNSm83
        have hRTRm85 := zR_TR_fr (zdis_fr (zfr_up hmm85 (zfr_rf [(28, 6)] _) hc0 rfl) rfl) hRTRm83
        have hRWDm85 := zR_WD_fr (zdis_fr (zfr_up hmm85 (zfr_rf [(28, 6)] _) hc0 rfl) rfl) hRWDm83
        refine zw_b (by omega) ?_
        refine zw_some ?_
        refine zw_b (by omega) ?_
        refine zw_some ?_
        refine zw_ite (fun h86 => ?_) (fun h86 => ?_)
        · exfalso; omega
        · refine zw_b (by omega) ?_
          have r87 : 0 ≤ (m85 a0 7) ∧ (m85 a0 7) ≤ 700 := zi_rd hIm85 hc0 zb_28_7
          have r88 : 0 ≤ (m85 a0 8) ∧ (m85 a0 8) ≤ 6 := zi_rd hIm85 hc0 zb_28_8
          have e89 : (m85 a0 8) = (m9 a0 8) := (Eq.trans (zs_ne hmm85 (Or.inr (by decide))) (zs_ne hmm83 (Or.inr (by decide))))
          exact zw_some ⟨hIm85, hFm85, hRNSm85, hRWDm85, ⟨by omega, by omega⟩, by omega, by omega⟩
    · refine zw_bd (zw_eq (zu_call_at (zt_T n) (zm_85 n) (zdp_85 n) _ _ _ _ _ rfl (zr_85_0 n _ _ a0 4 m0)) ?_)
      generalize hmm90 : zu_up m0 a0 4 4 = m90
      have hIm90 := zi_up hmm90 hIm0 hc0 zb_28_4 (by omega) (by omega)
      have hFm90 := zfr_up hmm90 hFm0 hc0 rfl
      have hRNSm90 := zR_NS_fr (zdis_fr (zfr_up hmm90 (zfr_rf [(28, 5)] _) hc0 rfl) rfl) hRNSm0
      have hRWDm90 := zR_WD_fr (zdis_fr (zfr_up hmm90 (zfr_rf [(28, 5)] _) hc0 rfl) rfl) hRWDm0
      have r91 : 0 ≤ (m90 a0 10) ∧ (m90 a0 10) ≤ 700 := zi_rd hIm90 hc0 zb_28_10
      generalize hmm92 : zu_up m90 a0 5 (m90 a0 10) = m92
      have hIm92 := zi_up hmm92 hIm90 hc0 zb_28_5 (by omega) (by omega)
      have hFm92 := zfr_up hmm92 hFm90 hc0 rfl
      have hRNSm92 := zR_NS_fr (zdis_fr (zfr_up hmm92 (zfr_rf [(28, 6)] _) hc0 rfl) rfl) hRNSm90
      have hRWDm92 := zR_WD_fr (zdis_fr (zfr_up hmm92 (zfr_rf [(28, 6)] _) hc0 rfl) rfl) hRWDm90
      refine zw_b (by omega) ?_
      refine zw_some ?_
      refine zw_b (by omega) ?_
      have r93 : 0 ≤ (m92 a0 7) ∧ (m92 a0 7) ≤ 700 := zi_rd hIm92 hc0 zb_28_7
      have r94 : 0 ≤ (m92 a0 8) ∧ (m92 a0 8) ≤ 6 := zi_rd hIm92 hc0 zb_28_8
      exact zw_some ⟨hIm92, hFm92, hRNSm92, hRWDm92, ⟨by omega, by omega⟩, by omega, by omega⟩
  · refine zw_bd (zw_eq (zu_call_at (zt_T n) (zm_85 n) (zdp_85 n) _ _ _ _ _ rfl (zr_85_0 n _ _ a0 3 m0)) ?_)
    generalize hmm95 : zu_up m0 a0 4 3 = m95
    have hIm95 := zi_up hmm95 hIm0 hc0 zb_28_4 (by omega) (by omega)
    have hFm95 := zfr_up hmm95 hFm0 hc0 rfl
    have hRNSm95 := zR_NS_fr (zdis_fr (zfr_up hmm95 (zfr_rf [(28, 5)] _) hc0 rfl) rfl) hRNSm0
    have hRWDm95 := zR_WD_fr (zdis_fr (zfr_up hmm95 (zfr_rf [(28, 5)] _) hc0 rfl) rfl) hRWDm0
    have r96 : 0 ≤ (m95 a0 10) ∧ (m95 a0 10) ≤ 700 := zi_rd hIm95 hc0 zb_28_10
    generalize hmm97 : zu_up m95 a0 5 (m95 a0 10) = m97
    have hIm97 := zi_up hmm97 hIm95 hc0 zb_28_5 (by omega) (by omega)
    have hFm97 := zfr_up hmm97 hFm95 hc0 rfl
    have hRNSm97 := zR_NS_fr (zdis_fr (zfr_up hmm97 (zfr_rf [(28, 6)] _) hc0 rfl) rfl) hRNSm95
    have hRWDm97 := zR_WD_fr (zdis_fr (zfr_up hmm97 (zfr_rf [(28, 6)] _) hc0 rfl) rfl) hRWDm95
    refine zw_b (by omega) ?_
    refine zw_some ?_
    refine zw_b (by omega) ?_
    have r98 : 0 ≤ (m97 a0 7) ∧ (m97 a0 7) ≤ 700 := zi_rd hIm97 hc0 zb_28_7
    have r99 : 0 ≤ (m97 a0 8) ∧ (m97 a0 8) ≤ 6 := zi_rd hIm97 hc0 zb_28_8
    exact zw_some ⟨hIm97, hFm97, hRNSm97, hRWDm97, ⟨by omega, by omega⟩, by omega, by omega⟩
set_option maxHeartbeats 4000000 in
theorem zk_104 (n : Nat) {a0 : Int} {m0 : zu_m} (hIm0 : zi_I m0) (hc0 : zcls a0 = 28)   (he0 : 6 ≤ m0 a0 9 ∧ m0 a0 9 ≤ 10)  (hRNSm0 : zR_NS m0) (hRWDm0 : zR_WD m0) : zw (zu_call (zt_T n) 104 [(40, a0)] m0) (fun v m => zi_I m ∧ zfr [(28, 5), (28, 6), (28, 8), (28, 9), (28, 10), (28, 11), (28, 12), (102, 0), (103, 0)] m0 m ∧ zR_NS m ∧ zR_WD m ∧ (0 ≤ v ∧ v ≤ 1) ∧ ((m0 a0 7) ≤ (m a0 7)) ∧ (v = 1 → ((m a0 8) = 0 ∨ (m0 a0 7) < (m a0 7)))) := by
  have hFm0 : zfr [(28, 5), (28, 6), (28, 8), (28, 9), (28, 10), (28, 11), (28, 12), (102, 0), (103, 0)] m0 m0 := zfr_rf _ _
  have s1 := hRNSm0 a0 hc0
  refine zw_eq (zu_call_at (zt_T n) (zm_104 n) (zdp_104 n) _ _ _ _ _ rfl (zr_104_0 n _ _ a0 m0)) ?_
  refine zw_ite (fun h2 => ?_) (fun h2 => ?_)
  · refine zw_bd (zw_eq (zu_call_at (zt_T n) (zm_98 n) (zdp_98 n) _ _ _ _ _ rfl (zr_98_0 n _ _ a0 1 m0)) ?_)
    have b3 : 0 ≤ (1 : Int) ∧ (1 : Int) < 6 := by omega
    refine zw_if b3 ?_
    have r4 : 0 ≤ (m0 193 1) ∧ (m0 193 1) ≤ 1 := zi_rd hIm0 zq_193 (zb_102 _)
    refine zw_ite (fun h5 => ?_) (fun h5 => ?_)
    · refine zw_b (by omega) ?_
      have b6 : 0 ≤ (1 : Int) ∧ (1 : Int) < 6 := by omega
      refine zw_if b6 ?_
      generalize hmm7 : zu_up m0 193 1 1 = m7
      have hIm7 := zi_up hmm7 hIm0 zq_193 (zb_102 _) (by omega) (by omega)
      have hFm7 := zfr_up hmm7 hFm0 zq_193 rfl
      have hRNSm7 := zR_NS_fr (zdis_fr (zfr_up hmm7 (zfr_rf [(102, 0)] _) zq_193 rfl) rfl) hRNSm0
      have hRWDm7 := zR_WD_fr (zdis_fr (zfr_up hmm7 (zfr_rf [(102, 0)] _) zq_193 rfl) rfl) hRWDm0
      refine zw_bd (zw_mono (zk_89 n hIm7 hc0 hRNSm7 hRWDm7) (fun v9 m8 hqm8 => ?_))
      obtain ⟨hIm8, hfm8, hvm8⟩ := hqm8
      have hFm8 := zfr_tr hFm7 hfm8 rfl
      obtain ⟨hRNSm8, hRTRm8, hRWDm8, hvm8⟩ := hvm8
      have s10 := hRNSm8 a0 hc0
      have s11 := hRTRm8 a0 hc0
      refine zw_b (by omega) ?_
      refine zw_some ?_
      refine zw_ite (fun h12 => ?_) (fun h12 => ?_)
      · exfalso; omega
      · refine zw_bd (zw_eq (zu_call_at (zt_T n) (zm_97 n) (zdp_97 n) _ _ _ _ _ rfl (zr_97_0 n _ _ a0 16 18 m8)) ?_)
        have r13 : 0 ≤ (m8 a0 8) ∧ (m8 a0 8) ≤ 6 := zi_rd hIm8 hc0 zb_28_8
        refine zw_ite (fun h14 => ?_) (fun h14 => ?_)
        · refine zw_bd (zw_eq (zu_call_at (zt_T n) (zm_85 n) (zdp_85 n) _ _ _ _ _ rfl (zr_85_0 n _ _ a0 1 m8)) ?_)
          generalize hmm15 : zu_up m8 a0 4 1 = m15
          have hIm15 := zi_up hmm15 hIm8 hc0 zb_28_4 (by omega) (by omega)
          have hFm15 := zfr_up hmm15 hFm8 hc0 rfl
          have hRNSm15 := zR_NS_fr (zdis_fr (zfr_up hmm15 (zfr_rf [(28, 5)] _) hc0 rfl) rfl) hRNSm8
          have hRTRm15 := zR_TR_fr (zdis_fr (zfr_up hmm15 (zfr_rf [(28, 5)] _) hc0 rfl) rfl) hRTRm8
          have hRWDm15 := zR_WD_fr (zdis_fr (zfr_up hmm15 (zfr_rf [(28, 5)] _) hc0 rfl) rfl) hRWDm8
          have r16 : 0 ≤ (m15 a0 10) ∧ (m15 a0 10) ≤ 700 := zi_rd hIm15 hc0 zb_28_10
          generalize hmm17 : zu_up m15 a0 5 (m15 a0 10) = m17
          have hIm17 := zi_up hmm17 hIm15 hc0 zb_28_5 (by omega) (by omega)
          have hFm17 := zfr_up hmm17 hFm15 hc0 rfl
          have hRNSm17 := zR_NS_fr (zdis_fr (zfr_up hmm17 (zfr_rf [(28, 6)] _) hc0 rfl) rfl) hRNSm15
          have hRTRm17 := zR_TR_fr (zdis_fr (zfr_up hmm17 (zfr_rf [(28, 6)] _) hc0 rfl) rfl) hRTRm15
          have hRWDm17 := zR_WD_fr (zdis_fr (zfr_up hmm17 (zfr_rf [(28, 6)] _) hc0 rfl) rfl) hRWDm15
          refine zw_b (by omega) ?_
          refine zw_some ?_
          refine zw_b (by omega) ?_
          refine zw_some ?_
          refine zw_ite (fun h18 => ?_) (fun h18 => ?_)
          · exfalso; omega
          · refine zw_b (by omega) ?_
            have r19 : 0 ≤ (m17 a0 7) ∧ (m17 a0 7) ≤ 700 := zi_rd hIm17 hc0 zb_28_7
            have r20 : 0 ≤ (m17 a0 8) ∧ (m17 a0 8) ≤ 6 := zi_rd hIm17 hc0 zb_28_8
            have e21 : (m17 a0 8) = (m8 a0 8) := (Eq.trans (zs_ne hmm17 (Or.inr (by decide))) (zs_ne hmm15 (Or.inr (by decide))))
            exact zw_some ⟨hIm17, hFm17, hRNSm17, hRWDm17, ⟨by omega, by omega⟩, by omega, by omega⟩
        · refine zw_ite (fun h22 => ?_) (fun h22 => ?_)
          · refine zw_bd (zw_eq (zu_call_at (zt_T n) (zm_85 n) (zdp_85 n) _ _ _ _ _ rfl (zr_85_0 n _ _ a0 1 m8)) ?_)
            generalize hmm23 : zu_up m8 a0 4 1 = m23
            have hIm23 := zi_up hmm23 hIm8 hc0 zb_28_4 (by omega) (by omega)
            have hFm23 := zfr_up hmm23 hFm8 hc0 rfl
            have hRNSm23 := zR_NS_fr (zdis_fr (zfr_up hmm23 (zfr_rf [(28, 5)] _) hc0 rfl) rfl) hRNSm8
            have hRTRm23 := zR_TR_fr (zdis_fr (zfr_up hmm23 (zfr_rf [(28, 5)] _) hc0 rfl) rfl) hRTRm8
            have hRWDm23 := zR_WD_fr (zdis_fr (zfr_up hmm23 (zfr_rf [(28, 5)] _) hc0 rfl) rfl) hRWDm8
            have r24 : 0 ≤ (m23 a0 10) ∧ (m23 a0 10) ≤ 700 := zi_rd hIm23 hc0 zb_28_10
            generalize hmm25 : zu_up m23 a0 5 (m23 a0 10) = m25
            have hIm25 := zi_up hmm25 hIm23 hc0 zb_28_5 (by omega) (by omega)
            have hFm25 := zfr_up hmm25 hFm23 hc0 rfl
            have hRNSm25 := zR_NS_fr (zdis_fr (zfr_up hmm25 (zfr_rf [(28, 6)] _) hc0 rfl) rfl) hRNSm23
            have hRTRm25 := zR_TR_fr (zdis_fr (zfr_up hmm25 (zfr_rf [(28, 6)] _) hc0 rfl) rfl) hRTRm23
            have hRWDm25 := zR_WD_fr (zdis_fr (zfr_up hmm25 (zfr_rf [(28, 6)] _) hc0 rfl) rfl) hRWDm23
            refine zw_b (by omega) ?_
            refine zw_some ?_
            refine zw_b (by omega) ?_
            refine zw_some ?_
            refine zw_ite (fun h26 => ?_) (fun h26 => ?_)
            · exfalso; omega
            · refine zw_b (by omega) ?_
              have r27 : 0 ≤ (m25 a0 7) ∧ (m25 a0 7) ≤ 700 := zi_rd hIm25 hc0 zb_28_7
              have r28 : 0 ≤ (m25 a0 8) ∧ (m25 a0 8) ≤ 6 := zi_rd hIm25 hc0 zb_28_8
              have e29 : (m25 a0 8) = (m8 a0 8) := (Eq.trans (zs_ne hmm25 (Or.inr (by decide))) (zs_ne hmm23 (Or.inr (by decide))))
              exact zw_some ⟨hIm25, hFm25, hRNSm25, hRWDm25, ⟨by omega, by omega⟩, by omega, by omega⟩
          · refine zw_ite (fun h30 => ?_) (fun h30 => ?_)
            · have w31 := zu_w32_id (z := (m8 a0 9) - 16) (by omega) (by omega)
              refine zw_bd (zw_mono (zk_89 n hIm8 hc0 hRNSm8 hRWDm8) (fun v33 m32 hqm32 => ?_))
              obtain ⟨hIm32, hfm32, hvm32⟩ := hqm32
              have hFm32 := zfr_tr hFm8 hfm32 rfl
              obtain ⟨hRNSm32, hRTRm32, hRWDm32, hvm32⟩ := hvm32
              have s34 := hRNSm32 a0 hc0
              have s35 := hRTRm32 a0 hc0
              generalize hmm36 : zu_up m32 a0 11 (zu_w32 ((m8 a0 9) - 16)) = m36
              have hIm36 := zi_up hmm36 hIm32 hc0 zb_28_11 (by omega) (by omega)
              have hFm36 := zfr_up hmm36 hFm32 hc0 rfl
              have hRNSm36 := zR_NS_fr (zdis_fr (zfr_up hmm36 (zfr_rf [(28, 12)] _) hc0 rfl) rfl) hRNSm32
              have hRTRm36 := zR_TR_fr (zdis_fr (zfr_up hmm36 (zfr_rf [(28, 12)] _) hc0 rfl) rfl) hRTRm32
              have hRWDm36 := zR_WD_fr (zdis_fr (zfr_up hmm36 (zfr_rf [(28, 12)] _) hc0 rfl) rfl) hRWDm32
              refine zw_b (by omega) ?_
              refine zw_some ?_
              refine zw_ite (fun h37 => ?_) (fun h37 => ?_)
              · have r38 : (-2147483648) ≤ (m36 a0 11) ∧ (m36 a0 11) ≤ 2147483647 := zi_rd hIm36 hc0 zb_28_11
                have e39 : (m36 a0 11) = (zu_w32 ((m8 a0 9) - 16)) := (zs_eq hmm36)
                have b40 : 0 ≤ (5 : Int) ∧ (5 : Int) < 10 := by omega
                refine zw_if b40 ?_
                generalize hmm41 : zu_up m36 194 5 (m36 a0 11) = m41
                have hIm41 := zi_up hmm41 hIm36 zq_194 (zb_103 _) (by omega) (by omega)
                have hFm41 := zfr_up hmm41 hFm36 zq_194 rfl
                have hRNSm41 := zR_NS_fr (zdis_fr (zfr_up hmm41 (zfr_rf [(103, 0)] _) zq_194 rfl) rfl) hRNSm36
                have hRTRm41 := zR_TR_fr (zdis_fr (zfr_up hmm41 (zfr_rf [(103, 0)] _) zq_194 rfl) rfl) hRTRm36
                have hRWDm41 := zR_WD_fr (zdis_fr (zfr_up hmm41 (zfr_rf [(103, 0)] _) zq_194 rfl) rfl) hRWDm36
                refine zw_b (by omega) ?_
                have r42 : 0 ≤ (m41 a0 7) ∧ (m41 a0 7) ≤ 700 := zi_rd hIm41 hc0 zb_28_7
                have r43 : 0 ≤ (m41 a0 8) ∧ (m41 a0 8) ≤ 6 := zi_rd hIm41 hc0 zb_28_8
                exact zw_some ⟨hIm41, hFm41, hRNSm41, hRWDm41, ⟨by omega, by omega⟩, by omega, by omega⟩
              · exfalso; omega
            · refine zw_bd (zw_eq (zu_call_at (zt_T n) (zm_85 n) (zdp_85 n) _ _ _ _ _ rfl (zr_85_0 n _ _ a0 1 m8)) ?_)
              generalize hmm44 : zu_up m8 a0 4 1 = m44
              have hIm44 := zi_up hmm44 hIm8 hc0 zb_28_4 (by omega) (by omega)
              have hFm44 := zfr_up hmm44 hFm8 hc0 rfl
              have hRNSm44 := zR_NS_fr (zdis_fr (zfr_up hmm44 (zfr_rf [(28, 5)] _) hc0 rfl) rfl) hRNSm8
              have hRTRm44 := zR_TR_fr (zdis_fr (zfr_up hmm44 (zfr_rf [(28, 5)] _) hc0 rfl) rfl) hRTRm8
              have hRWDm44 := zR_WD_fr (zdis_fr (zfr_up hmm44 (zfr_rf [(28, 5)] _) hc0 rfl) rfl) hRWDm8
              have r45 : 0 ≤ (m44 a0 10) ∧ (m44 a0 10) ≤ 700 := zi_rd hIm44 hc0 zb_28_10
              generalize hmm46 : zu_up m44 a0 5 (m44 a0 10) = m46
              have hIm46 := zi_up hmm46 hIm44 hc0 zb_28_5 (by omega) (by omega)
              have hFm46 := zfr_up hmm46 hFm44 hc0 rfl
              have hRNSm46 := zR_NS_fr (zdis_fr (zfr_up hmm46 (zfr_rf [(28, 6)] _) hc0 rfl) rfl) hRNSm44
              have hRTRm46 := zR_TR_fr (zdis_fr (zfr_up hmm46 (zfr_rf [(28, 6)] _) hc0 rfl) rfl) hRTRm44
              have hRWDm46 := zR_WD_fr (zdis_fr (zfr_up hmm46 (zfr_rf [(28, 6)] _) hc0 rfl) rfl) hRWDm44
              refine zw_b (by omega) ?_
              refine zw_some ?_
              refine zw_b (by omega) ?_
              refine zw_some ?_
              refine zw_ite (fun h47 => ?_) (fun h47 => ?_)
              · exfalso; omega
              · refine zw_b (by omega) ?_
                have r48 : 0 ≤ (m46 a0 7) ∧ (m46 a0 7) ≤ 700 := zi_rd hIm46 hc0 zb_28_7
                have r49 : 0 ≤ (m46 a0 8) ∧ (m46 a0 8) ≤ 6 := zi_rd hIm46 hc0 zb_28_8
                have e50 : (m46 a0 8) = (m8 a0 8) := (Eq.trans (zs_ne hmm46 (Or.inr (by decide))) (zs_ne hmm44 (Or.inr (by decide))))
                exact zw_some ⟨hIm46, hFm46, hRNSm46, hRWDm46, ⟨by omega, by omega⟩, by omega, by omega⟩
    · refine zw_bd (zw_eq (zu_call_at (zt_T n) (zm_85 n) (zdp_85 n) _ _ _ _ _ rfl (zr_85_0 n _ _ a0 3 m0)) ?_)
      generalize hmm51 : zu_up m0 a0 4 3 = m51
      have hIm51 := zi_up hmm51 hIm0 hc0 zb_28_4 (by omega) (by omega)
      have hFm51 := zfr_up hmm51 hFm0 hc0 rfl
      have hRNSm51 := zR_NS_fr (zdis_fr (zfr_up hmm51 (zfr_rf [(28, 5)] _) hc0 rfl) rfl) hRNSm0
      have hRWDm51 := zR_WD_fr (zdis_fr (zfr_up hmm51 (zfr_rf [(28, 5)] _) hc0 rfl) rfl) hRWDm0
      have r52 : 0 ≤ (m51 a0 10) ∧ (m51 a0 10) ≤ 700 := zi_rd hIm51 hc0 zb_28_10
      generalize hmm53 : zu_up m51 a0 5 (m51 a0 10) = m53
      have hIm53 := zi_up hmm53 hIm51 hc0 zb_28_5 (by omega) (by omega)
      have hFm53 := zfr_up hmm53 hFm51 hc0 rfl
      have hRNSm53 := zR_NS_fr (zdis_fr (zfr_up hmm53 (zfr_rf [(28, 6)] _) hc0 rfl) rfl) hRNSm51
      have hRWDm53 := zR_WD_fr (zdis_fr (zfr_up hmm53 (zfr_rf [(28, 6)] _) hc0 rfl) rfl) hRWDm51
      refine zw_b (by omega) ?_
      refine zw_some ?_
      refine zw_b (by omega) ?_
      refine zw_some ?_
      refine zw_ite (fun h54 => ?_) (fun h54 => ?_)
      · refine zw_b (by omega) ?_
        have r55 : 0 ≤ (m53 a0 7) ∧ (m53 a0 7) ≤ 700 := zi_rd hIm53 hc0 zb_28_7
        have r56 : 0 ≤ (m53 a0 8) ∧ (m53 a0 8) ≤ 6 := zi_rd hIm53 hc0 zb_28_8
        exact zw_some ⟨hIm53, hFm53, hRNSm53, hRWDm53, ⟨by omega, by omega⟩, by omega, by omega⟩
      · exfalso; omega
  · refine zw_ite (fun h57 => ?_) (fun h57 => ?_)
    · refine zw_bd (zw_eq (zu_call_at (zt_T n) (zm_98 n) (zdp_98 n) _ _ _ _ _ rfl (zr_98_0 n _ _ a0 2 m0)) ?_)
      have b58 : 0 ≤ (2 : Int) ∧ (2 : Int) < 6 := by omega
      refine zw_if b58 ?_
      have r59 : 0 ≤ (m0 193 2) ∧ (m0 193 2) ≤ 1 := zi_rd hIm0 zq_193 (zb_102 _)
      refine zw_ite (fun h60 => ?_) (fun h60 => ?_)
      · refine zw_b (by omega) ?_
        have b61 : 0 ≤ (2 : Int) ∧ (2 : Int) < 6 := by omega
        refine zw_if b61 ?_
        generalize hmm62 : zu_up m0 193 2 1 = m62
        have hIm62 := zi_up hmm62 hIm0 zq_193 (zb_102 _) (by omega) (by omega)
        have hFm62 := zfr_up hmm62 hFm0 zq_193 rfl
        have hRNSm62 := zR_NS_fr (zdis_fr (zfr_up hmm62 (zfr_rf [(102, 0)] _) zq_193 rfl) rfl) hRNSm0
        have hRWDm62 := zR_WD_fr (zdis_fr (zfr_up hmm62 (zfr_rf [(102, 0)] _) zq_193 rfl) rfl) hRWDm0
        refine zw_bd (zw_mono (zk_89 n hIm62 hc0 hRNSm62 hRWDm62) (fun v64 m63 hqm63 => ?_))
        obtain ⟨hIm63, hfm63, hvm63⟩ := hqm63
        have hFm63 := zfr_tr hFm62 hfm63 rfl
        obtain ⟨hRNSm63, hRTRm63, hRWDm63, hvm63⟩ := hvm63
        have s65 := hRNSm63 a0 hc0
        have s66 := hRTRm63 a0 hc0
        refine zw_b (by omega) ?_
        refine zw_some ?_
        refine zw_ite (fun h67 => ?_) (fun h67 => ?_)
        · exfalso; omega
        · refine zw_bd (zw_eq (zu_call_at (zt_T n) (zm_94 n) (zdp_94 n) _ _ _ _ _ rfl (zr_94_0 n _ _ a0 0 6 m63)) ?_)
          have r68 : 0 ≤ (m63 a0 8) ∧ (m63 a0 8) ≤ 6 := zi_rd hIm63 hc0 zb_28_8
          refine zw_ite (fun h69 => ?_) (fun h69 => ?_)
          · refine zw_bd (zw_eq (zu_call_at (zt_T n) (zm_83 n) (zdp_83 n) _ _ _ _ _ rfl (zr_83_0 n _ _ (m63 a0 9) 0 6 m63)) ?_)
            refine zw_ite (fun h70 => ?_) (fun h70 => ?_)
            · exfalso; omega
            · refine zw_ite (fun h71 => ?_) (fun h71 => ?_)
              · refine zw_b (by omega) ?_
                refine zw_some ?_
                refine zw_ite (fun h72 => ?_) (fun h72 => ?_)
                · exfalso; omega
                · refine zw_bd (zw_eq (zu_call_at (zt_T n) (zm_85 n) (zdp_85 n) _ _ _ _ _ rfl (zr_85_0 n _ _ a0 2 m63)) ?_)
                  generalize hmm73 : zu_up m63 a0 4 2 = m73
                  have hIm73 := zi_up hmm73 hIm63 hc0 zb_28_4 (by omega) (by omega)
                  have hFm73 := zfr_up hmm73 hFm63 hc0 rfl
                  have hRNSm73 := zR_NS_fr (zdis_fr (zfr_up hmm73 (zfr_rf [(28, 5)] _) hc0 rfl) rfl) hRNSm63
                  have hRTRm73 := zR_TR_fr (zdis_fr (zfr_up hmm73 (zfr_rf [(28, 5)] _) hc0 rfl) rfl) hRTRm63
                  have hRWDm73 := zR_WD_fr (zdis_fr (zfr_up hmm73 (zfr_rf [(28, 5)] _) hc0 rfl) rfl) hRWDm63
                  have r74 : 0 ≤ (m73 a0 10) ∧ (m73 a0 10) ≤ 700 := zi_rd hIm73 hc0 zb_28_10
                  generalize hmm75 : zu_up m73 a0 5 (m73 a0 10) = m75
                  have hIm75 := zi_up hmm75 hIm73 hc0 zb_28_5 (by omega) (by omega)
                  have hFm75 := zfr_up hmm75 hFm73 hc0 rfl
                  have hRNSm75 := zR_NS_fr (zdis_fr (zfr_up hmm75 (zfr_rf [(28, 6)] _) hc0 rfl) rfl) hRNSm73
                  have hRTRm75 := zR_TR_fr (zdis_fr (zfr_up hmm75 (zfr_rf [(28, 6)] _) hc0 rfl) rfl) hRTRm73
                  have hRWDm75 := zR_WD_fr (zdis_fr (zfr_up hmm75 (zfr_rf [(28, 6)] _) hc0 rfl) rfl) hRWDm73
                  refine zw_b (by omega) ?_
                  refine zw_some ?_
                  refine zw_b (by omega) ?_
                  refine zw_some ?_
                  refine zw_ite (fun h76 => ?_) (fun h76 => ?_)
                  · exfalso; omega
                  · refine zw_b (by omega) ?_
                    have r77 : 0 ≤ (m75 a0 7) ∧ (m75 a0 7) ≤ 700 := zi_rd hIm75 hc0 zb_28_7
                    have r78 : 0 ≤ (m75 a0 8) ∧ (m75 a0 8) ≤ 6 := zi_rd hIm75 hc0 zb_28_8
                    have e79 : (m75 a0 8) = (m63 a0 8) := (Eq.trans (zs_ne hmm75 (Or.inr (by decide))) (zs_ne hmm73 (Or.inr (by decide))))
                    exact zw_some ⟨hIm75, hFm75, hRNSm75, hRWDm75, ⟨by omega, by omega⟩, by omega, by omega⟩
              · refine zw_b (by omega) ?_
                refine zw_some ?_
                refine zw_ite (fun h80 => ?_) (fun h80 => ?_)
                · generalize hmm81 : zu_up m63 a0 11 (m63 a0 9) = m81
                  have hIm81 := zi_up hmm81 hIm63 hc0 zb_28_11 (by omega) (by omega)
                  have hFm81 := zfr_up hmm81 hFm63 hc0 rfl
                  have hRNSm81 := zR_NS_fr (zdis_fr (zfr_up hmm81 (zfr_rf [(28, 12)] _) hc0 rfl) rfl) hRNSm63
                  have hRTRm81 := zR_TR_fr (zdis_fr (zfr_up hmm81 (zfr_rf [(28, 12)] _) hc0 rfl) rfl) hRTRm63
                  have hRWDm81 := zR_WD_fr (zdis_fr (zfr_up hmm81 (zfr_rf [(28, 12)] _) hc0 rfl) rfl) hRWDm63
                  refine zw_bd (zw_mono (zk_89 n hIm81 hc0 hRNSm81 hRWDm81) (fun v83 m82 hqm82 => ?_))
                  obtain ⟨hIm82, hfm82, hvm82⟩ := hqm82
                  have hFm82 := zfr_tr hFm81 hfm82 rfl
                  obtain ⟨hRNSm82, hRTRm82, hRWDm82, hvm82⟩ := hvm82
                  have s84 := hRNSm82 a0 hc0
                  have s85 := hRTRm82 a0 hc0
                  refine zw_b (by omega) ?_
                  refine zw_some ?_
                  refine zw_ite (fun h86 => ?_) (fun h86 => ?_)
                  · have r87 : (-2147483648) ≤ (m82 a0 11) ∧ (m82 a0 11) ≤ 2147483647 := zi_rd hIm82 hc0 zb_28_11
                    have e88 : (m82 a0 11) = (m63 a0 9) := (Eq.trans (zfr_ap hfm82 hc0 rfl) (zs_eq hmm81))
                    have b89 : 0 ≤ (6 : Int) ∧ (6 : Int) < 10 := by omega
                    refine zw_if b89 ?_
                    generalize hmm90 : zu_up m82 194 6 (m82 a0 11) = m90
                    have hIm90 := zi_up hmm90 hIm82 zq_194 (zb_103 _) (by omega) (by omega)
                    have hFm90 := zfr_up hmm90 hFm82 zq_194 rfl
                    have hRNSm90 := zR_NS_fr (zdis_fr (zfr_up hmm90 (zfr_rf [(103, 0)] _) zq_194 rfl) rfl) hRNSm82
                    have hRTRm90 := zR_TR_fr (zdis_fr (zfr_up hmm90 (zfr_rf [(103, 0)] _) zq_194 rfl) rfl) hRTRm82
                    have hRWDm90 := zR_WD_fr (zdis_fr (zfr_up hmm90 (zfr_rf [(103, 0)] _) zq_194 rfl) rfl) hRWDm82
                    refine zw_b (by omega) ?_
                    have r91 : 0 ≤ (m90 a0 7) ∧ (m90 a0 7) ≤ 700 := zi_rd hIm90 hc0 zb_28_7
                    have r92 : 0 ≤ (m90 a0 8) ∧ (m90 a0 8) ≤ 6 := zi_rd hIm90 hc0 zb_28_8
                    exact zw_some ⟨hIm90, hFm90, hRNSm90, hRWDm90, ⟨by omega, by omega⟩, by omega, by omega⟩
                  · exfalso; omega
                · exfalso; omega
          · refine zw_bd (zw_eq (zu_call_at (zt_T n) (zm_85 n) (zdp_85 n) _ _ _ _ _ rfl (zr_85_0 n _ _ a0 1 m63)) ?_)
            generalize hmm93 : zu_up m63 a0 4 1 = m93
            have hIm93 := zi_up hmm93 hIm63 hc0 zb_28_4 (by omega) (by omega)
            have hFm93 := zfr_up hmm93 hFm63 hc0 rfl
            have hRNSm93 := zR_NS_fr (zdis_fr (zfr_up hmm93 (zfr_rf [(28, 5)] _) hc0 rfl) rfl) hRNSm63
            have hRTRm93 := zR_TR_fr (zdis_fr (zfr_up hmm93 (zfr_rf [(28, 5)] _) hc0 rfl) rfl) hRTRm63
            have hRWDm93 := zR_WD_fr (zdis_fr (zfr_up hmm93 (zfr_rf [(28, 5)] _) hc0 rfl) rfl) hRWDm63
            have r94 : 0 ≤ (m93 a0 10) ∧ (m93 a0 10) ≤ 700 := zi_rd hIm93 hc0 zb_28_10
            generalize hmm95 : zu_up m93 a0 5 (m93 a0 10) = m95
            have hIm95 := zi_up hmm95 hIm93 hc0 zb_28_5 (by omega) (by omega)
            have hFm95 := zfr_up hmm95 hFm93 hc0 rfl
            have hRNSm95 := zR_NS_fr (zdis_fr (zfr_up hmm95 (zfr_rf [(28, 6)] _) hc0 rfl) rfl) hRNSm93
            have hRTRm95 := zR_TR_fr (zdis_fr (zfr_up hmm95 (zfr_rf [(28, 6)] _) hc0 rfl) rfl) hRTRm93
            have hRWDm95 := zR_WD_fr (zdis_fr (zfr_up hmm95 (zfr_rf [(28, 6)] _) hc0 rfl) rfl) hRWDm93
            refine zw_b (by omega) ?_
            refine zw_some ?_
            refine zw_b (by omega) ?_
            refine zw_some ?_
            refine zw_ite (fun h96 => ?_) (fun h96 => ?_)
            · exfalso; omega
            · refine zw_b (by omega) ?_
              have r97 : 0 ≤ (m95 a0 7) ∧ (m95 a0 7) ≤ 700 := zi_rd hIm95 hc0 zb_28_7
              have r98 : 0 ≤ (m95 a0 8) ∧ (m95 a0 8) ≤ 6 := zi_rd hIm95 hc0 zb_28_8
              have e99 : (m95 a0 8) = (m63 a0 8) := (Eq.trans (zs_ne hmm95 (Or.inr (by decide))) (zs_ne hmm93 (Or.inr (by decide))))
              exact zw_some ⟨hIm95, hFm95, hRNSm95, hRWDm95, ⟨by omega, by omega⟩, by omega, by omega⟩
      · refine zw_bd (zw_eq (zu_call_at (zt_T n) (zm_85 n) (zdp_85 n) _ _ _ _ _ rfl (zr_85_0 n _ _ a0 3 m0)) ?_)
        generalize hmm100 : zu_up m0 a0 4 3 = m100
        have hIm100 := zi_up hmm100 hIm0 hc0 zb_28_4 (by omega) (by omega)
        have hFm100 := zfr_up hmm100 hFm0 hc0 rfl
        have hRNSm100 := zR_NS_fr (zdis_fr (zfr_up hmm100 (zfr_rf [(28, 5)] _) hc0 rfl) rfl) hRNSm0
        have hRWDm100 := zR_WD_fr (zdis_fr (zfr_up hmm100 (zfr_rf [(28, 5)] _) hc0 rfl) rfl) hRWDm0
        have r101 : 0 ≤ (m100 a0 10) ∧ (m100 a0 10) ≤ 700 := zi_rd hIm100 hc0 zb_28_10
        generalize hmm102 : zu_up m100 a0 5 (m100 a0 10) = m102
        have hIm102 := zi_up hmm102 hIm100 hc0 zb_28_5 (by omega) (by omega)
        have hFm102 := zfr_up hmm102 hFm100 hc0 rfl
        have hRNSm102 := zR_NS_fr (zdis_fr (zfr_up hmm102 (zfr_rf [(28, 6)] _) hc0 rfl) rfl) hRNSm100
        have hRWDm102 := zR_WD_fr (zdis_fr (zfr_up hmm102 (zfr_rf [(28, 6)] _) hc0 rfl) rfl) hRWDm100
        refine zw_b (by omega) ?_
        refine zw_some ?_
        refine zw_b (by omega) ?_
        refine zw_some ?_
        refine zw_ite (fun h103 => ?_) (fun h103 => ?_)
        · refine zw_b (by omega) ?_
          have r104 : 0 ≤ (m102 a0 7) ∧ (m102 a0 7) ≤ 700 := zi_rd hIm102 hc0 zb_28_7
          have r105 : 0 ≤ (m102 a0 8) ∧ (m102 a0 8) ≤ 6 := zi_rd hIm102 hc0 zb_28_8
          exact zw_some ⟨hIm102, hFm102, hRNSm102, hRWDm102, ⟨by omega, by omega⟩, by omega, by omega⟩
        · exfalso; omega
    · refine zw_ite (fun h106 => ?_) (fun h106 => ?_)
      · refine zw_bd (zw_eq (zu_call_at (zt_T n) (zm_98 n) (zdp_98 n) _ _ _ _ _ rfl (zr_98_0 n _ _ a0 3 m0)) ?_)
        have b107 : 0 ≤ (3 : Int) ∧ (3 : Int) < 6 := by omega
        refine zw_if b107 ?_
        have r108 : 0 ≤ (m0 193 3) ∧ (m0 193 3) ≤ 1 := zi_rd hIm0 zq_193 (zb_102 _)
        refine zw_ite (fun h109 => ?_) (fun h109 => ?_)
        · refine zw_b (by omega) ?_
          have b110 : 0 ≤ (3 : Int) ∧ (3 : Int) < 6 := by omega
          refine zw_if b110 ?_
          generalize hmm111 : zu_up m0 193 3 1 = m111
          have hIm111 := zi_up hmm111 hIm0 zq_193 (zb_102 _) (by omega) (by omega)
          have hFm111 := zfr_up hmm111 hFm0 zq_193 rfl
          have hRNSm111 := zR_NS_fr (zdis_fr (zfr_up hmm111 (zfr_rf [(102, 0)] _) zq_193 rfl) rfl) hRNSm0
          have hRWDm111 := zR_WD_fr (zdis_fr (zfr_up hmm111 (zfr_rf [(102, 0)] _) zq_193 rfl) rfl) hRWDm0
          refine zw_bd (zw_mono (zk_89 n hIm111 hc0 hRNSm111 hRWDm111) (fun v113 m112 hqm112 => ?_))
          obtain ⟨hIm112, hfm112, hvm112⟩ := hqm112
          have hFm112 := zfr_tr hFm111 hfm112 rfl
          obtain ⟨hRNSm112, hRTRm112, hRWDm112, hvm112⟩ := hvm112
          have s114 := hRNSm112 a0 hc0
          have s115 := hRTRm112 a0 hc0
          refine zw_b (by omega) ?_
          refine zw_some ?_
          refine zw_ite (fun h116 => ?_) (fun h116 => ?_)
          · exfalso; omega
          · refine zw_bd (zw_eq (zu_call_at (zt_T n) (zm_94 n) (zdp_94 n) _ _ _ _ _ rfl (zr_94_0 n _ _ a0 1 99 m112)) ?_)
            have r117 : 0 ≤ (m112 a0 8) ∧ (m112 a0 8) ≤ 6 := zi_rd hIm112 hc0 zb_28_8
            refine zw_ite (fun h118 => ?_) (fun h118 => ?_)
            · refine zw_bd (zw_eq (zu_call_at (zt_T n) (zm_83 n) (zdp_83 n) _ _ _ _ _ rfl (zr_83_0 n _ _ (m112 a0 9) 1 99 m112)) ?_)
              refine zw_ite (fun h119 => ?_) (fun h119 => ?_)
              · refine zw_b (by omega) ?_
                refine zw_some ?_
                refine zw_ite (fun h120 => ?_) (fun h120 => ?_)
                · exfalso; omega
                · refine zw_bd (zw_eq (zu_call_at (zt_T n) (zm_85 n) (zdp_85 n) _ _ _ _ _ rfl (zr_85_0 n _ _ a0 2 m112)) ?_)
                  generalize hmm121 : zu_up m112 a0 4 2 = m121
                  have hIm121 := zi_up hmm121 hIm112 hc0 zb_28_4 (by omega) (by omega)
                  have hFm121 := zfr_up hmm121 hFm112 hc0 rfl
                  have hRNSm121 := zR_NS_fr (zdis_fr (zfr_up hmm121 (zfr_rf [(28, 5)] _) hc0 rfl) rfl) hRNSm112
                  have hRTRm121 := zR_TR_fr (zdis_fr (zfr_up hmm121 (zfr_rf [(28, 5)] _) hc0 rfl) rfl) hRTRm112
                  have hRWDm121 := zR_WD_fr (zdis_fr (zfr_up hmm121 (zfr_rf [(28, 5)] _) hc0 rfl) rfl) hRWDm112
                  have r122 : 0 ≤ (m121 a0 10) ∧ (m121 a0 10) ≤ 700 := zi_rd hIm121 hc0 zb_28_10
                  generalize hmm123 : zu_up m121 a0 5 (m121 a0 10) = m123
                  have hIm123 := zi_up hmm123 hIm121 hc0 zb_28_5 (by omega) (by omega)
                  have hFm123 := zfr_up hmm123 hFm121 hc0 rfl
                  have hRNSm123 := zR_NS_fr (zdis_fr (zfr_up hmm123 (zfr_rf [(28, 6)] _) hc0 rfl) rfl) hRNSm121
                  have hRTRm123 := zR_TR_fr (zdis_fr (zfr_up hmm123 (zfr_rf [(28, 6)] _) hc0 rfl) rfl) hRTRm121
                  have hRWDm123 := zR_WD_fr (zdis_fr (zfr_up hmm123 (zfr_rf [(28, 6)] _) hc0 rfl) rfl) hRWDm121
                  refine zw_b (by omega) ?_
                  refine zw_some ?_
                  refine zw_b (by omega) ?_
                  refine zw_some ?_
                  refine zw_ite (fun h124 => ?_) (fun h124 => ?_)
                  · exfalso; omega
                  · refine zw_b (by omega) ?_
                    have r125 : 0 ≤ (m123 a0 7) ∧ (m123 a0 7) ≤ 700 := zi_rd hIm123 hc0 zb_28_7
                    have r126 : 0 ≤ (m123 a0 8) ∧ (m123 a0 8) ≤ 6 := zi_rd hIm123 hc0 zb_28_8
                    have e127 : (m123 a0 8) = (m112 a0 8) := (Eq.trans (zs_ne hmm123 (Or.inr (by decide))) (zs_ne hmm121 (Or.inr (by decide))))
                    exact zw_some ⟨hIm123, hFm123, hRNSm123, hRWDm123, ⟨by omega, by omega⟩, by omega, by omega⟩
              · refine zw_ite (fun h128 => ?_) (fun h128 => ?_)
                · refine zw_b (by omega) ?_
                  refine zw_some ?_
                  refine zw_ite (fun h129 => ?_) (fun h129 => ?_)
                  · exfalso; omega
                  · refine zw_bd (zw_eq (zu_call_at (zt_T n) (zm_85 n) (zdp_85 n) _ _ _ _ _ rfl (zr_85_0 n _ _ a0 2 m112)) ?_)
                    generalize hmm130 : zu_up m112 a0 4 2 = m130
                    have hIm130 := zi_up hmm130 hIm112 hc0 zb_28_4 (by omega) (by omega)
                    have hFm130 := zfr_up hmm130 hFm112 hc0 rfl
                    have hRNSm130 := zR_NS_fr (zdis_fr (zfr_up hmm130 (zfr_rf [(28, 5)] _) hc0 rfl) rfl) hRNSm112
                    have hRTRm130 := zR_TR_fr (zdis_fr (zfr_up hmm130 (zfr_rf [(28, 5)] _) hc0 rfl) rfl) hRTRm112
                    have hRWDm130 := zR_WD_fr (zdis_fr (zfr_up hmm130 (zfr_rf [(28, 5)] _) hc0 rfl) rfl) hRWDm112
                    have r131 : 0 ≤ (m130 a0 10) ∧ (m130 a0 10) ≤ 700 := zi_rd hIm130 hc0 zb_28_10
                    generalize hmm132 : zu_up m130 a0 5 (m130 a0 10) = m132
                    have hIm132 := zi_up hmm132 hIm130 hc0 zb_28_5 (by omega) (by omega)
                    have hFm132 := zfr_up hmm132 hFm130 hc0 rfl
                    have hRNSm132 := zR_NS_fr (zdis_fr (zfr_up hmm132 (zfr_rf [(28, 6)] _) hc0 rfl) rfl) hRNSm130
                    have hRTRm132 := zR_TR_fr (zdis_fr (zfr_up hmm132 (zfr_rf [(28, 6)] _) hc0 rfl) rfl) hRTRm130
                    have hRWDm132 := zR_WD_fr (zdis_fr (zfr_up hmm132 (zfr_rf [(28, 6)] _) hc0 rfl) rfl) hRWDm130
                    refine zw_b (by omega) ?_
                    refine zw_some ?_
                    refine zw_b (by omega) ?_
                    refine zw_some ?_
                    refine zw_ite (fun h133 => ?_) (fun h133 => ?_)
                    · exfalso; omega
                    · refine zw_b (by omega) ?_
                      have r134 : 0 ≤ (m132 a0 7) ∧ (m132 a0 7) ≤ 700 := zi_rd hIm132 hc0 zb_28_7
                      have r135 : 0 ≤ (m132 a0 8) ∧ (m132 a0 8) ≤ 6 := zi_rd hIm132 hc0 zb_28_8
                      have e136 : (m132 a0 8) = (m112 a0 8) := (Eq.trans (zs_ne hmm132 (Or.inr (by decide))) (zs_ne hmm130 (Or.inr (by decide))))
                      exact zw_some ⟨hIm132, hFm132, hRNSm132, hRWDm132, ⟨by omega, by omega⟩, by omega, by omega⟩
                · refine zw_b (by omega) ?_
                  refine zw_some ?_
                  refine zw_ite (fun h137 => ?_) (fun h137 => ?_)
                  · generalize hmm138 : zu_up m112 a0 11 (m112 a0 9) = m138
                    have hIm138 := zi_up hmm138 hIm112 hc0 zb_28_11 (by omega) (by omega)
                    have hFm138 := zfr_up hmm138 hFm112 hc0 rfl
                    have hRNSm138 := zR_NS_fr (zdis_fr (zfr_up hmm138 (zfr_rf [(28, 12)] _) hc0 rfl) rfl) hRNSm112
                    have hRTRm138 := zR_TR_fr (zdis_fr (zfr_up hmm138 (zfr_rf [(28, 12)] _) hc0 rfl) rfl) hRTRm112
                    have hRWDm138 := zR_WD_fr (zdis_fr (zfr_up hmm138 (zfr_rf [(28, 12)] _) hc0 rfl) rfl) hRWDm112
                    refine zw_bd (zw_mono (zk_89 n hIm138 hc0 hRNSm138 hRWDm138) (fun v140 m139 hqm139 => ?_))
                    obtain ⟨hIm139, hfm139, hvm139⟩ := hqm139
                    have hFm139 := zfr_tr hFm138 hfm139 rfl
                    obtain ⟨hRNSm139, hRTRm139, hRWDm139, hvm139⟩ := hvm139
                    have s141 := hRNSm139 a0 hc0
                    have s142 := hRTRm139 a0 hc0
                    refine zw_b (by omega) ?_
                    refine zw_some ?_
                    refine zw_ite (fun h143 => ?_) (fun h143 => ?_)
                    · have r144 : (-2147483648) ≤ (m139 a0 11) ∧ (m139 a0 11) ≤ 2147483647 := zi_rd hIm139 hc0 zb_28_11
                      have e145 : (m139 a0 11) = (m112 a0 9) := (Eq.trans (zfr_ap hfm139 hc0 rfl) (zs_eq hmm138))
                      have b146 : 0 ≤ (7 : Int) ∧ (7 : Int) < 10 := by omega
                      refine zw_if b146 ?_
                      generalize hmm147 : zu_up m139 194 7 (m139 a0 11) = m147
                      have hIm147 := zi_up hmm147 hIm139 zq_194 (zb_103 _) (by omega) (by omega)
                      have hFm147 := zfr_up hmm147 hFm139 zq_194 rfl
                      have hRNSm147 := zR_NS_fr (zdis_fr (zfr_up hmm147 (zfr_rf [(103, 0)] _) zq_194 rfl) rfl) hRNSm139
                      have hRTRm147 := zR_TR_fr (zdis_fr (zfr_up hmm147 (zfr_rf [(103, 0)] _) zq_194 rfl) rfl) hRTRm139
                      have hRWDm147 := zR_WD_fr (zdis_fr (zfr_up hmm147 (zfr_rf [(103, 0)] _) zq_194 rfl) rfl) hRWDm139
                      refine zw_b (by omega) ?_
                      have r148 : 0 ≤ (m147 a0 7) ∧ (m147 a0 7) ≤ 700 := zi_rd hIm147 hc0 zb_28_7
                      have r149 : 0 ≤ (m147 a0 8) ∧ (m147 a0 8) ≤ 6 := zi_rd hIm147 hc0 zb_28_8
                      exact zw_some ⟨hIm147, hFm147, hRNSm147, hRWDm147, ⟨by omega, by omega⟩, by omega, by omega⟩
                    · exfalso; omega
                  · exfalso; omega
            · refine zw_bd (zw_eq (zu_call_at (zt_T n) (zm_85 n) (zdp_85 n) _ _ _ _ _ rfl (zr_85_0 n _ _ a0 1 m112)) ?_)
              generalize hmm150 : zu_up m112 a0 4 1 = m150
              have hIm150 := zi_up hmm150 hIm112 hc0 zb_28_4 (by omega) (by omega)
              have hFm150 := zfr_up hmm150 hFm112 hc0 rfl
              have hRNSm150 := zR_NS_fr (zdis_fr (zfr_up hmm150 (zfr_rf [(28, 5)] _) hc0 rfl) rfl) hRNSm112
              have hRTRm150 := zR_TR_fr (zdis_fr (zfr_up hmm150 (zfr_rf [(28, 5)] _) hc0 rfl) rfl) hRTRm112
              have hRWDm150 := zR_WD_fr (zdis_fr (zfr_up hmm150 (zfr_rf [(28, 5)] _) hc0 rfl) rfl) hRWDm112
              have r151 : 0 ≤ (m150 a0 10) ∧ (m150 a0 10) ≤ 700 := zi_rd hIm150 hc0 zb_28_10
              generalize hmm152 : zu_up m150 a0 5 (m150 a0 10) = m152
              have hIm152 := zi_up hmm152 hIm150 hc0 zb_28_5 (by omega) (by omega)
              have hFm152 := zfr_up hmm152 hFm150 hc0 rfl
              have hRNSm152 := zR_NS_fr (zdis_fr (zfr_up hmm152 (zfr_rf [(28, 6)] _) hc0 rfl) rfl) hRNSm150
              have hRTRm152 := zR_TR_fr (zdis_fr (zfr_up hmm152 (zfr_rf [(28, 6)] _) hc0 rfl) rfl) hRTRm150
              have hRWDm152 := zR_WD_fr (zdis_fr (zfr_up hmm152 (zfr_rf [(28, 6)] _) hc0 rfl) rfl) hRWDm150
              refine zw_b (by omega) ?_
              refine zw_some ?_
              refine zw_b (by omega) ?_
              refine zw_some ?_
              refine zw_ite (fun h153 => ?_) (fun h153 => ?_)
              · exfalso; omega
              · refine zw_b (by omega) ?_
                have r154 : 0 ≤ (m152 a0 7) ∧ (m152 a0 7) ≤ 700 := zi_rd hIm152 hc0 zb_28_7
                have r155 : 0 ≤ (m152 a0 8) ∧ (m152 a0 8) ≤ 6 := zi_rd hIm152 hc0 zb_28_8
                have e156 : (m152 a0 8) = (m112 a0 8) := (Eq.trans (zs_ne hmm152 (Or.inr (by decide))) (zs_ne hmm150 (Or.inr (by decide))))
                exact zw_some ⟨hIm152, hFm152, hRNSm152, hRWDm152, ⟨by omega, by omega⟩, by omega, by omega⟩
        · refine zw_bd (zw_eq (zu_call_at (zt_T n) (zm_85 n) (zdp_85 n) _ _ _ _ _ rfl (zr_85_0 n _ _ a0 3 m0)) ?_)
          generalize hmm157 : zu_up m0 a0 4 3 = m157
          have hIm157 := zi_up hmm157 hIm0 hc0 zb_28_4 (by omega) (by omega)
          have hFm157 := zfr_up hmm157 hFm0 hc0 rfl
          have hRNSm157 := zR_NS_fr (zdis_fr (zfr_up hmm157 (zfr_rf [(28, 5)] _) hc0 rfl) rfl) hRNSm0
          have hRWDm157 := zR_WD_fr (zdis_fr (zfr_up hmm157 (zfr_rf [(28, 5)] _) hc0 rfl) rfl) hRWDm0
          have r158 : 0 ≤ (m157 a0 10) ∧ (m157 a0 10) ≤ 700 := zi_rd hIm157 hc0 zb_28_10
          generalize hmm159 : zu_up m157 a0 5 (m157 a0 10) = m159
          have hIm159 := zi_up hmm159 hIm157 hc0 zb_28_5 (by omega) (by omega)
          have hFm159 := zfr_up hmm159 hFm157 hc0 rfl
          have hRNSm159 := zR_NS_fr (zdis_fr (zfr_up hmm159 (zfr_rf [(28, 6)] _) hc0 rfl) rfl) hRNSm157
          have hRWDm159 := zR_WD_fr (zdis_fr (zfr_up hmm159 (zfr_rf [(28, 6)] _) hc0 rfl) rfl) hRWDm157
          refine zw_b (by omega) ?_
          refine zw_some ?_
          refine zw_b (by omega) ?_
          refine zw_some ?_
          refine zw_ite (fun h160 => ?_) (fun h160 => ?_)
          · refine zw_b (by omega) ?_
            have r161 : 0 ≤ (m159 a0 7) ∧ (m159 a0 7) ≤ 700 := zi_rd hIm159 hc0 zb_28_7
            have r162 : 0 ≤ (m159 a0 8) ∧ (m159 a0 8) ≤ 6 := zi_rd hIm159 hc0 zb_28_8
            exact zw_some ⟨hIm159, hFm159, hRNSm159, hRWDm159, ⟨by omega, by omega⟩, by omega, by omega⟩
          · exfalso; omega
      · refine zw_ite (fun h163 => ?_) (fun h163 => ?_)
        · refine zw_bd (zw_eq (zu_call_at (zt_T n) (zm_98 n) (zdp_98 n) _ _ _ _ _ rfl (zr_98_0 n _ _ a0 4 m0)) ?_)
          have b164 : 0 ≤ (4 : Int) ∧ (4 : Int) < 6 := by omega
          refine zw_if b164 ?_
          have r165 : 0 ≤ (m0 193 4) ∧ (m0 193 4) ≤ 1 := zi_rd hIm0 zq_193 (zb_102 _)
          refine zw_ite (fun h166 => ?_) (fun h166 => ?_)
          · refine zw_b (by omega) ?_
            have b167 : 0 ≤ (4 : Int) ∧ (4 : Int) < 6 := by omega
            refine zw_if b167 ?_
            generalize hmm168 : zu_up m0 193 4 1 = m168
            have hIm168 := zi_up hmm168 hIm0 zq_193 (zb_102 _) (by omega) (by omega)
            have hFm168 := zfr_up hmm168 hFm0 zq_193 rfl
            have hRNSm168 := zR_NS_fr (zdis_fr (zfr_up hmm168 (zfr_rf [(102, 0)] _) zq_193 rfl) rfl) hRNSm0
            have hRWDm168 := zR_WD_fr (zdis_fr (zfr_up hmm168 (zfr_rf [(102, 0)] _) zq_193 rfl) rfl) hRWDm0
            refine zw_bd (zw_mono (zk_89 n hIm168 hc0 hRNSm168 hRWDm168) (fun v170 m169 hqm169 => ?_))
            obtain ⟨hIm169, hfm169, hvm169⟩ := hqm169
            have hFm169 := zfr_tr hFm168 hfm169 rfl
            obtain ⟨hRNSm169, hRTRm169, hRWDm169, hvm169⟩ := hvm169
            have s171 := hRNSm169 a0 hc0
            have s172 := hRTRm169 a0 hc0
            refine zw_b (by omega) ?_
            refine zw_some ?_
            refine zw_ite (fun h173 => ?_) (fun h173 => ?_)
            · exfalso; omega
            · refine zw_bd (zw_eq (zu_call_at (zt_T n) (zm_94 n) (zdp_94 n) _ _ _ _ _ rfl (zr_94_0 n _ _ a0 0 999 m169)) ?_)
              have r174 : 0 ≤ (m169 a0 8) ∧ (m169 a0 8) ≤ 6 := zi_rd hIm169 hc0 zb_28_8
              refine zw_ite (fun h175 => ?_) (fun h175 => ?_)
              · refine zw_bd (zw_eq (zu_call_at (zt_T n) (zm_83 n) (zdp_83 n) _ _ _ _ _ rfl (zr_83_0 n _ _ (m169 a0 9) 0 999 m169)) ?_)
                refine zw_ite (fun h176 => ?_) (fun h176 => ?_)
                · exfalso; omega
                · refine zw_ite (fun h177 => ?_) (fun h177 => ?_)
                  · refine zw_b (by omega) ?_
                    refine zw_some ?_
                    refine zw_ite (fun h178 => ?_) (fun h178 => ?_)
                    · exfalso; omega
                    · refine zw_bd (zw_eq (zu_call_at (zt_T n) (zm_85 n) (zdp_85 n) _ _ _ _ _ rfl (zr_85_0 n _ _ a0 2 m169)) ?_)
                      generalize hmm179 : zu_up m169 a0 4 2 = m179
                      have hIm179 := zi_up hmm179 hIm169 hc0 zb_28_4 (by omega) (by omega)
                      have hFm179 := zfr_up hmm179 hFm169 hc0 rfl
                      have hRNSm179 := zR_NS_fr (zdis_fr (zfr_up hmm179 (zfr_rf [(28, 5)] _) hc0 rfl) rfl) hRNSm169
                      have hRTRm179 := zR_TR_fr (zdis_fr (zfr_up hmm179 (zfr_rf [(28, 5)] _) hc0 rfl) rfl) hRTRm169
                      have hRWDm179 := zR_WD_fr (zdis_fr (zfr_up hmm179 (zfr_rf [(28, 5)] _) hc0 rfl) rfl) hRWDm169
                      have r180 : 0 ≤ (m179 a0 10) ∧ (m179 a0 10) ≤ 700 := zi_rd hIm179 hc0 zb_28_10
                      generalize hmm181 : zu_up m179 a0 5 (m179 a0 10) = m181
                      have hIm181 := zi_up hmm181 hIm179 hc0 zb_28_5 (by omega) (by omega)
                      have hFm181 := zfr_up hmm181 hFm179 hc0 rfl
                      have hRNSm181 := zR_NS_fr (zdis_fr (zfr_up hmm181 (zfr_rf [(28, 6)] _) hc0 rfl) rfl) hRNSm179
                      have hRTRm181 := zR_TR_fr (zdis_fr (zfr_up hmm181 (zfr_rf [(28, 6)] _) hc0 rfl) rfl) hRTRm179
                      have hRWDm181 := zR_WD_fr (zdis_fr (zfr_up hmm181 (zfr_rf [(28, 6)] _) hc0 rfl) rfl) hRWDm179
                      refine zw_b (by omega) ?_
                      refine zw_some ?_
                      refine zw_b (by omega) ?_
                      refine zw_some ?_
                      refine zw_ite (fun h182 => ?_) (fun h182 => ?_)
                      · exfalso; omega
                      · refine zw_b (by omega) ?_
                        have r183 : 0 ≤ (m181 a0 7) ∧ (m181 a0 7) ≤ 700 := zi_rd hIm181 hc0 zb_28_7
                        have r184 : 0 ≤ (m181 a0 8) ∧ (m181 a0 8) ≤ 6 := zi_rd hIm181 hc0 zb_28_8
                        have e185 : (m181 a0 8) = (m169 a0 8) := (Eq.trans (zs_ne hmm181 (Or.inr (by decide))) (zs_ne hmm179 (Or.inr (by decide))))
                        exact zw_some ⟨hIm181, hFm181, hRNSm181, hRWDm181, ⟨by omega, by omega⟩, by omega, by omega⟩
                  · refine zw_b (by omega) ?_
                    refine zw_some ?_
                    refine zw_ite (fun h186 => ?_) (fun h186 => ?_)
                    · generalize hmm187 : zu_up m169 a0 11 (m169 a0 9) = m187
                      have hIm187 := zi_up hmm187 hIm169 hc0 zb_28_11 (by omega) (by omega)
                      have hFm187 := zfr_up hmm187 hFm169 hc0 rfl
                      have hRNSm187 := zR_NS_fr (zdis_fr (zfr_up hmm187 (zfr_rf [(28, 12)] _) hc0 rfl) rfl) hRNSm169
                      have hRTRm187 := zR_TR_fr (zdis_fr (zfr_up hmm187 (zfr_rf [(28, 12)] _) hc0 rfl) rfl) hRTRm169
                      have hRWDm187 := zR_WD_fr (zdis_fr (zfr_up hmm187 (zfr_rf [(28, 12)] _) hc0 rfl) rfl) hRWDm169
                      refine zw_bd (zw_mono (zk_89 n hIm187 hc0 hRNSm187 hRWDm187) (fun v189 m188 hqm188 => ?_))
                      obtain ⟨hIm188, hfm188, hvm188⟩ := hqm188
                      have hFm188 := zfr_tr hFm187 hfm188 rfl
                      obtain ⟨hRNSm188, hRTRm188, hRWDm188, hvm188⟩ := hvm188
                      have s190 := hRNSm188 a0 hc0
                      have s191 := hRTRm188 a0 hc0
                      refine zw_b (by omega) ?_
                      refine zw_some ?_
                      refine zw_ite (fun h192 => ?_) (fun h192 => ?_)
                      · have r193 : (-2147483648) ≤ (m188 a0 11) ∧ (m188 a0 11) ≤ 2147483647 := zi_rd hIm188 hc0 zb_28_11
                        have e194 : (m188 a0 11) = (m169 a0 9) := (Eq.trans (zfr_ap hfm188 hc0 rfl) (zs_eq hmm187))
                        have b195 : 0 ≤ (8 : Int) ∧ (8 : Int) < 10 := by omega
                        refine zw_if b195 ?_
                        generalize hmm196 : zu_up m188 194 8 (m188 a0 11) = m196
                        have hIm196 := zi_up hmm196 hIm188 zq_194 (zb_103 _) (by omega) (by omega)
                        have hFm196 := zfr_up hmm196 hFm188 zq_194 rfl
                        have hRNSm196 := zR_NS_fr (zdis_fr (zfr_up hmm196 (zfr_rf [(103, 0)] _) zq_194 rfl) rfl) hRNSm188
                        have hRTRm196 := zR_TR_fr (zdis_fr (zfr_up hmm196 (zfr_rf [(103, 0)] _) zq_194 rfl) rfl) hRTRm188
                        have hRWDm196 := zR_WD_fr (zdis_fr (zfr_up hmm196 (zfr_rf [(103, 0)] _) zq_194 rfl) rfl) hRWDm188
                        refine zw_b (by omega) ?_
                        have r197 : 0 ≤ (m196 a0 7) ∧ (m196 a0 7) ≤ 700 := zi_rd hIm196 hc0 zb_28_7
                        have r198 : 0 ≤ (m196 a0 8) ∧ (m196 a0 8) ≤ 6 := zi_rd hIm196 hc0 zb_28_8
                        exact zw_some ⟨hIm196, hFm196, hRNSm196, hRWDm196, ⟨by omega, by omega⟩, by omega, by omega⟩
                      · exfalso; omega
                    · exfalso; omega
              · refine zw_bd (zw_eq (zu_call_at (zt_T n) (zm_85 n) (zdp_85 n) _ _ _ _ _ rfl (zr_85_0 n _ _ a0 1 m169)) ?_)
                generalize hmm199 : zu_up m169 a0 4 1 = m199
                have hIm199 := zi_up hmm199 hIm169 hc0 zb_28_4 (by omega) (by omega)
                have hFm199 := zfr_up hmm199 hFm169 hc0 rfl
                have hRNSm199 := zR_NS_fr (zdis_fr (zfr_up hmm199 (zfr_rf [(28, 5)] _) hc0 rfl) rfl) hRNSm169
                have hRTRm199 := zR_TR_fr (zdis_fr (zfr_up hmm199 (zfr_rf [(28, 5)] _) hc0 rfl) rfl) hRTRm169
                have hRWDm199 := zR_WD_fr (zdis_fr (zfr_up hmm199 (zfr_rf [(28, 5)] _) hc0 rfl) rfl) hRWDm169
                have r200 : 0 ≤ (m199 a0 10) ∧ (m199 a0 10) ≤ 700 := zi_rd hIm199 hc0 zb_28_10
                generalize hmm201 : zu_up m199 a0 5 (m199 a0 10) = m201
                have hIm201 := zi_up hmm201 hIm199 hc0 zb_28_5 (by omega) (by omega)
                have hFm201 := zfr_up hmm201 hFm199 hc0 rfl
                have hRNSm201 := zR_NS_fr (zdis_fr (zfr_up hmm201 (zfr_rf [(28, 6)] _) hc0 rfl) rfl) hRNSm199
                have hRTRm201 := zR_TR_fr (zdis_fr (zfr_up hmm201 (zfr_rf [(28, 6)] _) hc0 rfl) rfl) hRTRm199
                have hRWDm201 := zR_WD_fr (zdis_fr (zfr_up hmm201 (zfr_rf [(28, 6)] _) hc0 rfl) rfl) hRWDm199
                refine zw_b (by omega) ?_
                refine zw_some ?_
                refine zw_b (by omega) ?_
                refine zw_some ?_
                refine zw_ite (fun h202 => ?_) (fun h202 => ?_)
                · exfalso; omega
                · refine zw_b (by omega) ?_
                  have r203 : 0 ≤ (m201 a0 7) ∧ (m201 a0 7) ≤ 700 := zi_rd hIm201 hc0 zb_28_7
                  have r204 : 0 ≤ (m201 a0 8) ∧ (m201 a0 8) ≤ 6 := zi_rd hIm201 hc0 zb_28_8
                  have e205 : (m201 a0 8) = (m169 a0 8) := (Eq.trans (zs_ne hmm201 (Or.inr (by decide))) (zs_ne hmm199 (Or.inr (by decide))))
                  exact zw_some ⟨hIm201, hFm201, hRNSm201, hRWDm201, ⟨by omega, by omega⟩, by omega, by omega⟩
          · refine zw_bd (zw_eq (zu_call_at (zt_T n) (zm_85 n) (zdp_85 n) _ _ _ _ _ rfl (zr_85_0 n _ _ a0 3 m0)) ?_)
            generalize hmm206 : zu_up m0 a0 4 3 = m206
            have hIm206 := zi_up hmm206 hIm0 hc0 zb_28_4 (by omega) (by omega)
            have hFm206 := zfr_up hmm206 hFm0 hc0 rfl
            have hRNSm206 := zR_NS_fr (zdis_fr (zfr_up hmm206 (zfr_rf [(28, 5)] _) hc0 rfl) rfl) hRNSm0
            have hRWDm206 := zR_WD_fr (zdis_fr (zfr_up hmm206 (zfr_rf [(28, 5)] _) hc0 rfl) rfl) hRWDm0
            have r207 : 0 ≤ (m206 a0 10) ∧ (m206 a0 10) ≤ 700 := zi_rd hIm206 hc0 zb_28_10
            generalize hmm208 : zu_up m206 a0 5 (m206 a0 10) = m208
            have hIm208 := zi_up hmm208 hIm206 hc0 zb_28_5 (by omega) (by omega)
            have hFm208 := zfr_up hmm208 hFm206 hc0 rfl
            have hRNSm208 := zR_NS_fr (zdis_fr (zfr_up hmm208 (zfr_rf [(28, 6)] _) hc0 rfl) rfl) hRNSm206
            have hRWDm208 := zR_WD_fr (zdis_fr (zfr_up hmm208 (zfr_rf [(28, 6)] _) hc0 rfl) rfl) hRWDm206
            refine zw_b (by omega) ?_
            refine zw_some ?_
            refine zw_b (by omega) ?_
            refine zw_some ?_
            refine zw_ite (fun h209 => ?_) (fun h209 => ?_)
            · refine zw_b (by omega) ?_
              have r210 : 0 ≤ (m208 a0 7) ∧ (m208 a0 7) ≤ 700 := zi_rd hIm208 hc0 zb_28_7
              have r211 : 0 ≤ (m208 a0 8) ∧ (m208 a0 8) ≤ 6 := zi_rd hIm208 hc0 zb_28_8
              exact zw_some ⟨hIm208, hFm208, hRNSm208, hRWDm208, ⟨by omega, by omega⟩, by omega, by omega⟩
            · exfalso; omega
        · refine zw_bd (zw_eq (zu_call_at (zt_T n) (zm_98 n) (zdp_98 n) _ _ _ _ _ rfl (zr_98_0 n _ _ a0 5 m0)) ?_)
          have b212 : 0 ≤ (5 : Int) ∧ (5 : Int) < 6 := by omega
          refine zw_if b212 ?_
          have r213 : 0 ≤ (m0 193 5) ∧ (m0 193 5) ≤ 1 := zi_rd hIm0 zq_193 (zb_102 _)
          refine zw_ite (fun h214 => ?_) (fun h214 => ?_)
          · refine zw_b (by omega) ?_
            have b215 : 0 ≤ (5 : Int) ∧ (5 : Int) < 6 := by omega
            refine zw_if b215 ?_
            generalize hmm216 : zu_up m0 193 5 1 = m216
            have hIm216 := zi_up hmm216 hIm0 zq_193 (zb_102 _) (by omega) (by omega)
            have hFm216 := zfr_up hmm216 hFm0 zq_193 rfl
            have hRNSm216 := zR_NS_fr (zdis_fr (zfr_up hmm216 (zfr_rf [(102, 0)] _) zq_193 rfl) rfl) hRNSm0
            have hRWDm216 := zR_WD_fr (zdis_fr (zfr_up hmm216 (zfr_rf [(102, 0)] _) zq_193 rfl) rfl) hRWDm0
            refine zw_bd (zw_mono (zk_89 n hIm216 hc0 hRNSm216 hRWDm216) (fun v218 m217 hqm217 => ?_))
            obtain ⟨hIm217, hfm217, hvm217⟩ := hqm217
            have hFm217 := zfr_tr hFm216 hfm217 rfl
            obtain ⟨hRNSm217, hRTRm217, hRWDm217, hvm217⟩ := hvm217
            have s219 := hRNSm217 a0 hc0
            have s220 := hRTRm217 a0 hc0
            refine zw_b (by omega) ?_
            refine zw_some ?_
            refine zw_ite (fun h221 => ?_) (fun h221 => ?_)
            · exfalso; omega
            · refine zw_bd (zw_eq (zu_call_at (zt_T n) (zm_94 n) (zdp_94 n) _ _ _ _ _ rfl (zr_94_0 n _ _ a0 0 99999 m217)) ?_)
              have r222 : 0 ≤ (m217 a0 8) ∧ (m217 a0 8) ≤ 6 := zi_rd hIm217 hc0 zb_28_8
              refine zw_ite (fun h223 => ?_) (fun h223 => ?_)
              · refine zw_bd (zw_eq (zu_call_at (zt_T n) (zm_83 n) (zdp_83 n) _ _ _ _ _ rfl (zr_83_0 n _ _ (m217 a0 9) 0 99999 m217)) ?_)
                refine zw_ite (fun h224 => ?_) (fun h224 => ?_)
                · exfalso; omega
                · refine zw_ite (fun h225 => ?_) (fun h225 => ?_)
                  · refine zw_b (by omega) ?_
                    refine zw_some ?_
                    refine zw_ite (fun h226 => ?_) (fun h226 => ?_)
                    · exfalso; omega
                    · refine zw_bd (zw_eq (zu_call_at (zt_T n) (zm_85 n) (zdp_85 n) _ _ _ _ _ rfl (zr_85_0 n _ _ a0 2 m217)) ?_)
                      generalize hmm227 : zu_up m217 a0 4 2 = m227
                      have hIm227 := zi_up hmm227 hIm217 hc0 zb_28_4 (by omega) (by omega)
                      have hFm227 := zfr_up hmm227 hFm217 hc0 rfl
                      have hRNSm227 := zR_NS_fr (zdis_fr (zfr_up hmm227 (zfr_rf [(28, 5)] _) hc0 rfl) rfl) hRNSm217
                      have hRTRm227 := zR_TR_fr (zdis_fr (zfr_up hmm227 (zfr_rf [(28, 5)] _) hc0 rfl) rfl) hRTRm217
                      have hRWDm227 := zR_WD_fr (zdis_fr (zfr_up hmm227 (zfr_rf [(28, 5)] _) hc0 rfl) rfl) hRWDm217
                      have r228 : 0 ≤ (m227 a0 10) ∧ (m227 a0 10) ≤ 700 := zi_rd hIm227 hc0 zb_28_10
                      generalize hmm229 : zu_up m227 a0 5 (m227 a0 10) = m229
                      have hIm229 := zi_up hmm229 hIm227 hc0 zb_28_5 (by omega) (by omega)
                      have hFm229 := zfr_up hmm229 hFm227 hc0 rfl
                      have hRNSm229 := zR_NS_fr (zdis_fr (zfr_up hmm229 (zfr_rf [(28, 6)] _) hc0 rfl) rfl) hRNSm227
                      have hRTRm229 := zR_TR_fr (zdis_fr (zfr_up hmm229 (zfr_rf [(28, 6)] _) hc0 rfl) rfl) hRTRm227
                      have hRWDm229 := zR_WD_fr (zdis_fr (zfr_up hmm229 (zfr_rf [(28, 6)] _) hc0 rfl) rfl) hRWDm227
                      refine zw_b (by omega) ?_
                      refine zw_some ?_
                      refine zw_b (by omega) ?_
                      refine zw_some ?_
                      refine zw_ite (fun h230 => ?_) (fun h230 => ?_)
                      · exfalso; omega
                      · refine zw_b (by omega) ?_
                        have r231 : 0 ≤ (m229 a0 7) ∧ (m229 a0 7) ≤ 700 := zi_rd hIm229 hc0 zb_28_7
                        have r232 : 0 ≤ (m229 a0 8) ∧ (m229 a0 8) ≤ 6 := zi_rd hIm229 hc0 zb_28_8
                        have e233 : (m229 a0 8) = (m217 a0 8) := (Eq.trans (zs_ne hmm229 (Or.inr (by decide))) (zs_ne hmm227 (Or.inr (by decide))))
                        exact zw_some ⟨hIm229, hFm229, hRNSm229, hRWDm229, ⟨by omega, by omega⟩, by omega, by omega⟩
                  · refine zw_b (by omega) ?_
                    refine zw_some ?_
                    refine zw_ite (fun h234 => ?_) (fun h234 => ?_)
                    · generalize hmm235 : zu_up m217 a0 11 (m217 a0 9) = m235
                      have hIm235 := zi_up hmm235 hIm217 hc0 zb_28_11 (by omega) (by omega)
                      have hFm235 := zfr_up hmm235 hFm217 hc0 rfl
                      have hRNSm235 := zR_NS_fr (zdis_fr (zfr_up hmm235 (zfr_rf [(28, 12)] _) hc0 rfl) rfl) hRNSm217
                      have hRTRm235 := zR_TR_fr (zdis_fr (zfr_up hmm235 (zfr_rf [(28, 12)] _) hc0 rfl) rfl) hRTRm217
                      have hRWDm235 := zR_WD_fr (zdis_fr (zfr_up hmm235 (zfr_rf [(28, 12)] _) hc0 rfl) rfl) hRWDm217
                      refine zw_bd (zw_mono (zk_89 n hIm235 hc0 hRNSm235 hRWDm235) (fun v237 m236 hqm236 => ?_))
                      obtain ⟨hIm236, hfm236, hvm236⟩ := hqm236
                      have hFm236 := zfr_tr hFm235 hfm236 rfl
                      obtain ⟨hRNSm236, hRTRm236, hRWDm236, hvm236⟩ := hvm236
                      have s238 := hRNSm236 a0 hc0
                      have s239 := hRTRm236 a0 hc0
                      refine zw_b (by omega) ?_
                      refine zw_some ?_
                      refine zw_ite (fun h240 => ?_) (fun h240 => ?_)
                      · have r241 : (-2147483648) ≤ (m236 a0 11) ∧ (m236 a0 11) ≤ 2147483647 := zi_rd hIm236 hc0 zb_28_11
                        have e242 : (m236 a0 11) = (m217 a0 9) := (Eq.trans (zfr_ap hfm236 hc0 rfl) (zs_eq hmm235))
                        have b243 : 0 ≤ (9 : Int) ∧ (9 : Int) < 10 := by omega
                        refine zw_if b243 ?_
                        generalize hmm244 : zu_up m236 194 9 (m236 a0 11) = m244
                        have hIm244 := zi_up hmm244 hIm236 zq_194 (zb_103 _) (by omega) (by omega)
                        have hFm244 := zfr_up hmm244 hFm236 zq_194 rfl
                        have hRNSm244 := zR_NS_fr (zdis_fr (zfr_up hmm244 (zfr_rf [(103, 0)] _) zq_194 rfl) rfl) hRNSm236
                        have hRTRm244 := zR_TR_fr (zdis_fr (zfr_up hmm244 (zfr_rf [(103, 0)] _) zq_194 rfl) rfl) hRTRm236
                        have hRWDm244 := zR_WD_fr (zdis_fr (zfr_up hmm244 (zfr_rf [(103, 0)] _) zq_194 rfl) rfl) hRWDm236
                        refine zw_b (by omega) ?_
                        have r245 : 0 ≤ (m244 a0 7) ∧ (m244 a0 7) ≤ 700 := zi_rd hIm244 hc0 zb_28_7
                        have r246 : 0 ≤ (m244 a0 8) ∧ (m244 a0 8) ≤ 6 := zi_rd hIm244 hc0 zb_28_8
                        exact zw_some ⟨hIm244, hFm244, hRNSm244, hRWDm244, ⟨by omega, by omega⟩, by omega, by omega⟩
                      · exfalso; omega
                    · exfalso; omega
              · refine zw_bd (zw_eq (zu_call_at (zt_T n) (zm_85 n) (zdp_85 n) _ _ _ _ _ rfl (zr_85_0 n _ _ a0 1 m217)) ?_)
                generalize hmm247 : zu_up m217 a0 4 1 = m247
                have hIm247 := zi_up hmm247 hIm217 hc0 zb_28_4 (by omega) (by omega)
                have hFm247 := zfr_up hmm247 hFm217 hc0 rfl
                have hRNSm247 := zR_NS_fr (zdis_fr (zfr_up hmm247 (zfr_rf [(28, 5)] _) hc0 rfl) rfl) hRNSm217
                have hRTRm247 := zR_TR_fr (zdis_fr (zfr_up hmm247 (zfr_rf [(28, 5)] _) hc0 rfl) rfl) hRTRm217
                have hRWDm247 := zR_WD_fr (zdis_fr (zfr_up hmm247 (zfr_rf [(28, 5)] _) hc0 rfl) rfl) hRWDm217
                have r248 : 0 ≤ (m247 a0 10) ∧ (m247 a0 10) ≤ 700 := zi_rd hIm247 hc0 zb_28_10
                generalize hmm249 : zu_up m247 a0 5 (m247 a0 10) = m249
                have hIm249 := zi_up hmm249 hIm247 hc0 zb_28_5 (by omega) (by omega)
                have hFm249 := zfr_up hmm249 hFm247 hc0 rfl
                have hRNSm249 := zR_NS_fr (zdis_fr (zfr_up hmm249 (zfr_rf [(28, 6)] _) hc0 rfl) rfl) hRNSm247
                have hRTRm249 := zR_TR_fr (zdis_fr (zfr_up hmm249 (zfr_rf [(28, 6)] _) hc0 rfl) rfl) hRTRm247
                have hRWDm249 := zR_WD_fr (zdis_fr (zfr_up hmm249 (zfr_rf [(28, 6)] _) hc0 rfl) rfl) hRWDm247
                refine zw_b (by omega) ?_
                refine zw_some ?_
                refine zw_b (by omega) ?_
                refine zw_some ?_
                refine zw_ite (fun h250 => ?_) (fun h250 => ?_)
                · exfalso; omega
                · refine zw_b (by omega) ?_
                  have r251 : 0 ≤ (m249 a0 7) ∧ (m249 a0 7) ≤ 700 := zi_rd hIm249 hc0 zb_28_7
                  have r252 : 0 ≤ (m249 a0 8) ∧ (m249 a0 8) ≤ 6 := zi_rd hIm249 hc0 zb_28_8
                  have e253 : (m249 a0 8) = (m217 a0 8) := (Eq.trans (zs_ne hmm249 (Or.inr (by decide))) (zs_ne hmm247 (Or.inr (by decide))))
                  exact zw_some ⟨hIm249, hFm249, hRNSm249, hRWDm249, ⟨by omega, by omega⟩, by omega, by omega⟩
          · refine zw_bd (zw_eq (zu_call_at (zt_T n) (zm_85 n) (zdp_85 n) _ _ _ _ _ rfl (zr_85_0 n _ _ a0 3 m0)) ?_)
            generalize hmm254 : zu_up m0 a0 4 3 = m254
            have hIm254 := zi_up hmm254 hIm0 hc0 zb_28_4 (by omega) (by omega)
            have hFm254 := zfr_up hmm254 hFm0 hc0 rfl
            have hRNSm254 := zR_NS_fr (zdis_fr (zfr_up hmm254 (zfr_rf [(28, 5)] _) hc0 rfl) rfl) hRNSm0
            have hRWDm254 := zR_WD_fr (zdis_fr (zfr_up hmm254 (zfr_rf [(28, 5)] _) hc0 rfl) rfl) hRWDm0
            have r255 : 0 ≤ (m254 a0 10) ∧ (m254 a0 10) ≤ 700 := zi_rd hIm254 hc0 zb_28_10
            generalize hmm256 : zu_up m254 a0 5 (m254 a0 10) = m256
            have hIm256 := zi_up hmm256 hIm254 hc0 zb_28_5 (by omega) (by omega)
            have hFm256 := zfr_up hmm256 hFm254 hc0 rfl
            have hRNSm256 := zR_NS_fr (zdis_fr (zfr_up hmm256 (zfr_rf [(28, 6)] _) hc0 rfl) rfl) hRNSm254
            have hRWDm256 := zR_WD_fr (zdis_fr (zfr_up hmm256 (zfr_rf [(28, 6)] _) hc0 rfl) rfl) hRWDm254
            refine zw_b (by omega) ?_
            refine zw_some ?_
            refine zw_b (by omega) ?_
            refine zw_some ?_
            refine zw_ite (fun h257 => ?_) (fun h257 => ?_)
            · refine zw_b (by omega) ?_
              have r258 : 0 ≤ (m256 a0 7) ∧ (m256 a0 7) ≤ 700 := zi_rd hIm256 hc0 zb_28_7
              have r259 : 0 ≤ (m256 a0 8) ∧ (m256 a0 8) ≤ 6 := zi_rd hIm256 hc0 zb_28_8
              exact zw_some ⟨hIm256, hFm256, hRNSm256, hRWDm256, ⟨by omega, by omega⟩, by omega, by omega⟩
            · exfalso; omega

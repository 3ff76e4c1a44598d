/-! layWeights: what every cell is liked -/
set_option maxHeartbeats 4000000 in
theorem zl_23v (n : Nat) {a0 a1 : Int} {m0 : zu_m} (hc0 : zcls a0 = 11) (hc1 : zcls a1 = 13) (P : Int → Int → Prop) (hP : ∀ (c : Int) (mh : zu_m), zi_I mh → zfr [(56, 0), (57, 0), (58, 0), (59, 1), (59, 2), (59, 3), (59, 4), (59, 5), (59, 6), (59, 7), (63, 0)] m0 mh → 0 ≤ c → c < m0 a0 2 → zl (zu_call (zt_T n) 24 [(8, a0), (0, c)] mh) (fun v _ => (zu_lcmp v (-9223372036854775808) ≠ 0 → P c (zu_max 0 (zu_min 999 v))) ∧ (¬ zu_lcmp v (-9223372036854775808) ≠ 0 → P c (1 + m0 (a0 + 3) c))))   : ∀ k : Nat, (∀ (x2 : Int) (mh : zu_m), zi_I mh → zfr [(56, 0), (57, 0), (58, 0), (59, 1), (59, 2), (59, 3), (59, 4), (59, 5), (59, 6), (59, 7), (63, 0)] m0 mh → (0 ≤ x2 ∧ x2 ≤ 48) → (zR_K54 mh) → (∀ i, 0 ≤ i → i < x2 → P i (mh (a0 + 10) i)) → (48 - x2) * 1 + 250 < (k : Int) → zw (zu_ex (zt_T n) 23 2 [(8, a0), (27, a1), (0, x2), (2, 0), (2, 0)] [] mh) (fun v m => zi_I m ∧ zfr [(56, 0), (57, 0), (58, 0), (59, 1), (59, 2), (59, 3), (59, 4), (59, 5), (59, 6), (59, 7), (63, 0)] m0 m ∧ zR_K54 m ∧ (∀ i, 0 ≤ i → i < m0 a0 2 → P i (m (a0 + 10) i)))) ∧ (∀ (x2 : Int) (mh : zu_m), zi_I mh → zfr [(56, 0), (57, 0), (58, 0), (59, 1), (59, 2), (59, 3), (59, 4), (59, 5), (59, 6), (59, 7), (63, 0)] m0 mh → (0 ≤ x2 ∧ x2 ≤ 4) → (zR_K54 mh) → (∀ i, 0 ≤ i → i < m0 a0 2 → P i (mh (a0 + 10) i)) → (4 - x2) * 50 + 49 < (k : Int) → zw (zu_ex (zt_T n) 23 72 [(8, a0), (27, a1), (0, x2), (2, 0), (2, 0)] [] mh) (fun v m => zi_I m ∧ zfr [(56, 0), (57, 0), (58, 0), (59, 1), (59, 2), (59, 3), (59, 4), (59, 5), (59, 6), (59, 7), (63, 0)] m0 m ∧ zR_K54 m ∧ (∀ i, 0 ≤ i → i < m0 a0 2 → P i (m (a0 + 10) i)))) ∧ (∀ (x2 x3 : Int) (mh : zu_m), zi_I mh → zfr [(56, 0), (57, 0), (58, 0), (59, 1), (59, 2), (59, 3), (59, 4), (59, 5), (59, 6), (59, 7), (63, 0)] m0 mh → (0 ≤ x2 ∧ x2 ≤ 3) → (0 ≤ x3 ∧ x3 ≤ 48) → (1 ≤ mh a1 4 ∧ mh a1 4 ≤ 4) → (zR_K54 mh) → (∀ i, 0 ≤ i → i < m0 a0 2 → P i (mh (a0 + 10) i)) → (48 - x3) * 1 + (4 - x2) * 50 + 0 < (k : Int) → zw (zu_ex (zt_T n) 23 82 [(8, a0), (27, a1), (0, x2), (0, x3), (2, 0)] [] mh) (fun v m => zi_I m ∧ zfr [(56, 0), (57, 0), (58, 0), (59, 1), (59, 2), (59, 3), (59, 4), (59, 5), (59, 6), (59, 7), (63, 0)] m0 m ∧ zR_K54 m ∧ (∀ i, 0 ≤ i → i < m0 a0 2 → P i (m (a0 + 10) i)))) := by
  intro k
  induction k with
  | zero => exact ⟨fun x2 mh hImh hFmh hbx2 hRK54mh hR hM => by exfalso; omega, fun x2 mh hImh hFmh hbx2 hRK54mh hR hM => by exfalso; omega, fun x2 x3 mh hImh hFmh hbx2 hbx3 hg2 hRK54mh hR hM => by exfalso; omega⟩
  | succ k ih =>
    refine ⟨?_, ?_, ?_⟩
    · intro x2 mh hImh hFmh hbx2 hRK54mh hR hM
      refine zw_eq (zu_rega_at (zt_T n) (zm_23 n) (zdp_23 n) _ _ _ _ _ _ (zr_23_2 n _ _ a0 a1 x2 mh)) ?_
      have e2 : mh a0 2 = m0 a0 2 := zfr_ap hFmh hc0 rfl
      have r1 : 1 ≤ (mh a0 2) ∧ (mh a0 2) ≤ 48 := zi_rd hImh hc0 zb_11_2
      refine zw_ite (fun h2 => ?_) (fun h2 => ?_)
      · have hM : (4 - 0) * 50 + 49 < (k : Int) := by omega
        exact ih.2.1 0 mh hImh hFmh ⟨by omega, by omega⟩ hRK54mh (fun i p0 p1 => hR i p0 (by omega)) hM
      · refine zw_bd (zw_mono (zw_zl (zk_24 n hImh hc0 ⟨by omega, by omega⟩ hRK54mh) (hP x2 mh hImh hFmh hbx2.1 (by omega))) (fun v4 m3 hqm3 => ?_))
        obtain ⟨⟨hIm3, hfm3, hvm3⟩, hq1, hq2⟩ := hqm3
        have hFm3 := zfr_tr hFmh hfm3 rfl
        obtain ⟨hRK54m3, hvm3⟩ := hvm3
        have c5 := zu_lcmp_sp v4 (-9223372036854775808)
        refine zw_ite (fun h6 => ?_) (fun h6 => ?_)
        · refine zw_bd (zw_eq (zu_call_at (zt_T n) (zm_253 n) (zdp_253 n) _ _ _ _ _ rfl (zr_253_0 n _ _ v4 999 m3)) ?_)
          have k7 := zmin_bd 999 v4
          have k8 := zmax_bd 0 (zu_min 999 v4)
          have w9 := zu_w32_id (z := (zu_max 0 (zu_min 999 v4))) (by omega) (by omega)
          refine zw_some ?_
          have b10 : 0 ≤ x2 ∧ x2 < 48 := by omega
          refine zw_if b10 ?_
          generalize hmm11 : zu_up m3 (a0 + 10) x2 (zu_w32 (zu_max 0 (zu_min 999 v4))) = m11
          have hIm11 := zi_up hmm11 hIm3 (zc_11_10 hc0) (zb_57 _) (by omega) (by omega)
          have hFm11 := zfr_up hmm11 hFm3 (zc_11_10 hc0) rfl
          have hRK54m11 := zR_K54_fr (zdis_fr (zfr_up hmm11 (zfr_rf [(57, 0)] _) (zc_11_10 hc0) rfl) rfl) hRK54m3
          have b12 : 0 ≤ x2 ∧ x2 < 48 := by omega
          refine zw_if b12 ?_
          have r13 : 0 ≤ (m11 (a0 + 10) x2) ∧ (m11 (a0 + 10) x2) ≤ 999 := zi_rd hIm11 (zc_11_10 hc0) (zb_57 _)
          have e14 : (m11 (a0 + 10) x2) = (zu_w32 (zu_max 0 (zu_min 999 v4))) := (zs_eq hmm11)
          have w15 := zu_w32_id (z := (m11 (a0 + 10) x2) * 1000) (by omega) (by omega)
          have b16 : 0 ≤ x2 ∧ x2 < 48 := by omega
          refine zw_if b16 ?_
          generalize hmm17 : zu_up m11 (a1 + 4) x2 (zu_w32 ((m11 (a0 + 10) x2) * 1000)) = m17
          have hIm17 := zi_up hmm17 hIm11 (zc_13_6 hc1) (zb_63 _) (by omega) (by omega)
          have hFm17 := zfr_up hmm17 hFm11 (zc_13_6 hc1) rfl
          have hRK54m17 := zR_K54_fr (zdis_fr (zfr_up hmm17 (zfr_rf [(63, 0)] _) (zc_13_6 hc1) rfl) rfl) hRK54m11
          have w18 := zu_w32_id (z := x2 + 1) (by omega) (by omega)
          have hM : (48 - (zu_w32 (x2 + 1))) * 1 + 250 < (k : Int) := by omega
          have hR17 : ∀ i, 0 ≤ i → i < zu_w32 (x2 + 1) → P i (m17 (a0 + 10) i) := fun i p0 p1 => by
            rw [zs_ne (b := a0 + 10) (j := i) hmm17 (Or.inl (zc_ne (zc_11_10 hc0) (zc_13_6 hc1) (by decide)))]
            by_cases q : i = x2
            · rw [q, e14, w9]
              exact hq1 h6
            · rw [zs_ne (b := a0 + 10) (j := i) hmm11 (Or.inr q), show m3 (a0 + 10) i = mh (a0 + 10) i from zfr_ap hfm3 (zc_11_10 hc0) rfl]
              exact hR i p0 (by omega)
          exact zw_le (zu_forget (zu_lr_same (zu_lr_same (zu_lr_same (zu_lr_drop (zu_lr_same zu_lr_nil)))))) (ih.1 (zu_w32 (x2 + 1)) m17 hIm17 hFm17 ⟨by omega, by omega⟩ hRK54m17 hR17 hM)
        · have b19 : 0 ≤ x2 ∧ x2 < 48 := by omega
          refine zw_if b19 ?_
          have r20 : 0 ≤ (m3 (a0 + 3) x2) ∧ (m3 (a0 + 3) x2) ≤ 3 := zi_rd hIm3 (zc_11_8 hc0) (zb_51 _)
          have w21 := zu_w32_id (z := 1 + (m3 (a0 + 3) x2)) (by omega) (by omega)
          have b22 : 0 ≤ x2 ∧ x2 < 48 := by omega
          refine zw_if b22 ?_
          generalize hmm23 : zu_up m3 (a0 + 10) x2 (zu_w32 (1 + (m3 (a0 + 3) x2))) = m23
          have hIm23 := zi_up hmm23 hIm3 (zc_11_10 hc0) (zb_57 _) (by omega) (by omega)
          have hFm23 := zfr_up hmm23 hFm3 (zc_11_10 hc0) rfl
          have hRK54m23 := zR_K54_fr (zdis_fr (zfr_up hmm23 (zfr_rf [(57, 0)] _) (zc_11_10 hc0) rfl) rfl) hRK54m3
          have b24 : 0 ≤ x2 ∧ x2 < 48 := by omega
          refine zw_if b24 ?_
          have r25 : 0 ≤ (m23 (a0 + 10) x2) ∧ (m23 (a0 + 10) x2) ≤ 999 := zi_rd hIm23 (zc_11_10 hc0) (zb_57 _)
          have e26 : (m23 (a0 + 10) x2) = (zu_w32 (1 + (m3 (a0 + 3) x2))) := (zs_eq hmm23)
          have w27 := zu_w32_id (z := (m23 (a0 + 10) x2) * 1000) (by omega) (by omega)
          have b28 : 0 ≤ x2 ∧ x2 < 48 := by omega
          refine zw_if b28 ?_
          generalize hmm29 : zu_up m23 (a1 + 4) x2 (zu_w32 ((m23 (a0 + 10) x2) * 1000)) = m29
          have hIm29 := zi_up hmm29 hIm23 (zc_13_6 hc1) (zb_63 _) (by omega) (by omega)
          have hFm29 := zfr_up hmm29 hFm23 (zc_13_6 hc1) rfl
          have hRK54m29 := zR_K54_fr (zdis_fr (zfr_up hmm29 (zfr_rf [(63, 0)] _) (zc_13_6 hc1) rfl) rfl) hRK54m23
          have w30 := zu_w32_id (z := x2 + 1) (by omega) (by omega)
          have hM : (48 - (zu_w32 (x2 + 1))) * 1 + 250 < (k : Int) := by omega
          have hR29 : ∀ i, 0 ≤ i → i < zu_w32 (x2 + 1) → P i (m29 (a0 + 10) i) := fun i p0 p1 => by
            rw [zs_ne (b := a0 + 10) (j := i) hmm29 (Or.inl (zc_ne (zc_11_10 hc0) (zc_13_6 hc1) (by decide)))]
            by_cases q : i = x2
            · rw [q, e26, w21]
              rw [show m3 (a0 + 3) x2 = m0 (a0 + 3) x2 from zfr_ap hFm3 (zc_11_8 hc0) rfl]
              exact hq2 h6
            · rw [zs_ne (b := a0 + 10) (j := i) hmm23 (Or.inr q), show m3 (a0 + 10) i = mh (a0 + 10) i from zfr_ap hfm3 (zc_11_10 hc0) rfl]
              exact hR i p0 (by omega)
          exact zw_le (zu_forget (zu_lr_same (zu_lr_same (zu_lr_same (zu_lr_drop (zu_lr_same zu_lr_nil)))))) (ih.1 (zu_w32 (x2 + 1)) m29 hIm29 hFm29 ⟨by omega, by omega⟩ hRK54m29 hR29 hM)
    · intro x2 mh hImh hFmh hbx2 hRK54mh hR hM
      refine zw_eq (zu_rega_at (zt_T n) (zm_23 n) (zdp_23 n) _ _ _ _ _ _ (zr_23_72 n _ _ a0 a1 x2 mh)) ?_
      have r31 : 0 ≤ (mh a1 4) ∧ (mh a1 4) ≤ 4 := zi_rd hImh hc1 zb_13_4
      refine zw_ite (fun h32 => ?_) (fun h32 => ?_)
      · exact zw_some ⟨hImh, hFmh, hRK54mh, hR⟩
      · have hM : (48 - 0) * 1 + (4 - x2) * 50 + 0 < (k : Int) := by omega
        exact ih.2.2 x2 0 mh hImh hFmh ⟨by omega, by omega⟩ ⟨by omega, by omega⟩ ⟨by omega, by omega⟩ hRK54mh hR hM
    · intro x2 x3 mh hImh hFmh hbx2 hbx3 hg2 hRK54mh hR hM
      refine zw_eq (zu_rega_at (zt_T n) (zm_23 n) (zdp_23 n) _ _ _ _ _ _ (zr_23_82 n _ _ a0 a1 x2 x3 mh)) ?_
      have r33 : 1 ≤ (mh a0 2) ∧ (mh a0 2) ≤ 48 := zi_rd hImh hc0 zb_11_2
      refine zw_ite (fun h34 => ?_) (fun h34 => ?_)
      · have w35 := zu_w32_id (z := x2 + 1) (by omega) (by omega)
        have hM : (4 - (zu_w32 (x2 + 1))) * 50 + 49 < (k : Int) := by omega
        exact zw_le (zu_forget (zu_lr_same (zu_lr_same (zu_lr_same (zu_lr_drop (zu_lr_same zu_lr_nil)))))) (ih.2.1 (zu_w32 (x2 + 1)) mh hImh hFmh ⟨by omega, by omega⟩ hRK54mh hR hM)
      · refine zw_bd (zw_mono (zk_25 n hImh hc0 ⟨by omega, by omega⟩ ⟨by decide, by decide⟩ ⟨by decide, by decide⟩) (fun v37 m36 hqm36 => ?_))
        obtain ⟨hIm36, hfm36, hvm36⟩ := hqm36
        have hFm36 := zfr_tr hFmh hfm36 rfl
        have hRK54m36 := zR_K54_fr (zdis_fr hfm36 rfl) hRK54mh
        have b38 : 0 ≤ x2 ∧ x2 < 4 := by omega
        refine zw_if b38 ?_
        have r39 : 0 ≤ (m36 ((a1 + 2) + 20 + x2) 2) ∧ (m36 ((a1 + 2) + 20 + x2) 2) ≤ 15 := zi_rd hIm36 (zc_61_e (zc_13_3 hc1) b38) zb_15_2
        refine zw_bd (zw_mono (zk_247 n hIm36 hc0 ⟨by omega, by omega⟩ ⟨by omega, by omega⟩ ⟨by decide, by decide⟩) (fun v41 m40 hqm40 => ?_))
        obtain ⟨hIm40, hfm40, hvm40⟩ := hqm40
        have hFm40 := zfr_tr hFm36 hfm40 rfl
        have hRK54m40 := zR_K54_fr (zdis_fr hfm40 rfl) hRK54m36
        have w42 := zu_w32_id (z := x2 * 48) (by omega) (by omega)
        have w43 := zu_w32_id (z := (zu_w32 (x2 * 48)) + x3) (by omega) (by omega)
        refine zw_bd (zw_mono (zk_250 n hIm40 hc0 hRK54m40) (fun v45 m44 hqm44 => ?_))
        obtain ⟨hIm44, hfm44, hvm44⟩ := hqm44
        have hFm44 := zfr_tr hFm40 hfm44 rfl
        obtain ⟨hRK54m44, hvm44⟩ := hvm44
        have w46 := zu_w32_id (z := 100 - v45) (by omega) (by omega)
        have b47 : 0 ≤ (zu_w32 ((zu_w32 (x2 * 48)) + x3)) ∧ (zu_w32 ((zu_w32 (x2 * 48)) + x3)) < 192 := by omega
        refine zw_if b47 ?_
        generalize hmm48 : zu_up m44 (a0 + 11) (zu_w32 ((zu_w32 (x2 * 48)) + x3)) (zu_w32 (100 - v45)) = m48
        have hIm48 := zi_up hmm48 hIm44 (zc_11_11 hc0) (zb_58 _) (by omega) (by omega)
        have hFm48 := zfr_up hmm48 hFm44 (zc_11_11 hc0) rfl
        have hRK54m48 := zR_K54_fr (zdis_fr (zfr_up hmm48 (zfr_rf [(58, 0)] _) (zc_11_11 hc0) rfl) rfl) hRK54m44
        have w49 := zu_w32_id (z := x3 + 1) (by omega) (by omega)
        have r50 : 0 ≤ (m48 a1 4) ∧ (m48 a1 4) ≤ 4 := zi_rd hIm48 hc1 zb_13_4
        have e51 : (m48 a1 4) = (mh a1 4) := (Eq.trans (zs_ne hmm48 (Or.inl (zc_ne hc1 (zc_11_11 hc0) (by decide)))) (Eq.trans (zfr_ap hfm44 hc1 rfl) (Eq.trans (zfr_ap hfm40 hc1 rfl) (zfr_ap hfm36 hc1 rfl))))
        have hM : (48 - (zu_w32 (x3 + 1))) * 1 + (4 - x2) * 50 + 0 < (k : Int) := by omega
        have hR48 : ∀ i, 0 ≤ i → i < m0 a0 2 → P i (m48 (a0 + 10) i) := fun i p0 p1 => by
          rw [zs_ne (b := a0 + 10) (j := i) hmm48 (Or.inl (zc_ne (zc_11_10 hc0) (zc_11_11 hc0) (by decide))), show m44 (a0 + 10) i = m40 (a0 + 10) i from zfr_ap hfm44 (zc_11_10 hc0) rfl, show m40 (a0 + 10) i = m36 (a0 + 10) i from zfr_ap hfm40 (zc_11_10 hc0) rfl, show m36 (a0 + 10) i = mh (a0 + 10) i from zfr_ap hfm36 (zc_11_10 hc0) rfl]
          exact hR i p0 p1
        exact ih.2.2 x2 (zu_w32 (x3 + 1)) m48 hIm48 hFm48 ⟨by omega, by omega⟩ ⟨by omega, by omega⟩ ⟨by omega, by omega⟩ hRK54m48 hR48 hM
set_option maxHeartbeats 4000000 in
theorem zk_23v (n : Nat) {a0 a1 : Int} {m0 : zu_m} (hIm0 : zi_I m0) (hc0 : zcls a0 = 11) (hc1 : zcls a1 = 13) (P : Int → Int → Prop) (hP : ∀ (c : Int) (mh : zu_m), zi_I mh → zfr [(56, 0), (57, 0), (58, 0), (59, 1), (59, 2), (59, 3), (59, 4), (59, 5), (59, 6), (59, 7), (63, 0)] m0 mh → 0 ≤ c → c < m0 a0 2 → zl (zu_call (zt_T n) 24 [(8, a0), (0, c)] mh) (fun v _ => (zu_lcmp v (-9223372036854775808) ≠ 0 → P c (zu_max 0 (zu_min 999 v))) ∧ (¬ zu_lcmp v (-9223372036854775808) ≠ 0 → P c (1 + m0 (a0 + 3) c))))     (hRK54m0 : zR_K54 m0) : zw (zu_call (zt_T n) 23 [(8, a0), (27, a1)] m0) (fun v m => zi_I m ∧ zfr [(56, 0), (57, 0), (58, 0), (59, 1), (59, 2), (59, 3), (59, 4), (59, 5), (59, 6), (59, 7), (63, 0)] m0 m ∧ zR_K54 m ∧ (∀ i, 0 ≤ i → i < m0 a0 2 → P i (m (a0 + 10) i))) := by
  have hFm0 : zfr [(56, 0), (57, 0), (58, 0), (59, 1), (59, 2), (59, 3), (59, 4), (59, 5), (59, 6), (59, 7), (63, 0)] m0 m0 := zfr_rf _ _
  refine zw_eq (zu_call_at (zt_T n) (zm_23 n) (zdp_23 n) _ _ _ _ _ rfl (zr_23_0 n _ _ a0 a1 m0)) ?_
  have hM : (48 - 0) * 1 + 250 < ((299 : Nat) : Int) := by omega
  exact (zl_23v n (m0 := m0) hc0 hc1 P hP 299).1 0 m0 hIm0 hFm0 ⟨by omega, by omega⟩ hRK54m0 (fun i p0 p1 => by exfalso; omega) hM

set_option maxHeartbeats 4000000 in
theorem zl_286 (n : Nat) {a0 a1 : Int} {m0 : zu_m} (hc0 : zcls a0 = 24)   : ∀ k : Nat, (∀ (x2 : Int) (mh : zu_m), zi_I mh → zfr [(24, 7), (25, 3), (25, 5), (25, 9), (25, 10), (25, 11), (25, 12), (26, 1), (26, 2), (26, 3), (26, 4), (27, 1), (27, 2), (27, 3), (27, 4), (27, 5), (27, 6), (27, 7), (27, 8), (56, 0), (59, 1), (59, 2), (59, 3), (59, 4), (59, 5), (59, 6), (59, 7), (85, 0), (97, 0), (98, 0)] m0 mh → (1 ≤ a1 ∧ a1 ≤ 40) → (0 ≤ x2 ∧ x2 ≤ 47) → ((mh a0 6) ≤ 4 * x2 + 1) → ((mh 164 8) ≤ (mh 164 11) → (mh a0 6) ≤ 4 * x2) → ((mh 164 8) ≤ 9999 + x2) → (zR_K54 mh) → (47 - x2) * 6 + 5 < (k : Int) → zw (zu_ex (zt_T n) 286 18 [(33, a0), (0, a1), (0, x2), (2, 0)] [] mh) (fun v m => zi_I m ∧ zfr [(24, 7), (25, 3), (25, 5), (25, 9), (25, 10), (25, 11), (25, 12), (26, 1), (26, 2), (26, 3), (26, 4), (27, 1), (27, 2), (27, 3), (27, 4), (27, 5), (27, 6), (27, 7), (27, 8), (56, 0), (59, 1), (59, 2), (59, 3), (59, 4), (59, 5), (59, 6), (59, 7), (85, 0), (97, 0), (98, 0)] m0 m ∧ zR_K54 m ∧ True)) ∧ (∀ (x2 x3 : Int) (mh : zu_m), zi_I mh → zfr [(24, 7), (25, 3), (25, 5), (25, 9), (25, 10), (25, 11), (25, 12), (26, 1), (26, 2), (26, 3), (26, 4), (27, 1), (27, 2), (27, 3), (27, 4), (27, 5), (27, 6), (27, 7), (27, 8), (56, 0), (59, 1), (59, 2), (59, 3), (59, 4), (59, 5), (59, 6), (59, 7), (85, 0), (97, 0), (98, 0)] m0 mh → (1 ≤ a1 ∧ a1 ≤ 40) → (0 ≤ x2 ∧ x2 ≤ 40) → (0 ≤ x3 ∧ x3 ≤ 4) → ((mh a0 6) ≤ 4 * x2 + 1 + x3) → ((mh 164 8) ≤ (mh 164 11) → (mh a0 6) ≤ 4 * x2 + x3) → ((mh 164 8) ≤ 9999 + x2) → (zR_K54 mh) → (4 - x3) * 1 + (47 - x2) * 6 + 0 < (k : Int) → zw (zu_ex (zt_T n) 286 31 [(33, a0), (0, a1), (0, x2), (0, x3)] [] mh) (fun v m => zi_I m ∧ zfr [(24, 7), (25, 3), (25, 5), (25, 9), (25, 10), (25, 11), (25, 12), (26, 1), (26, 2), (26, 3), (26, 4), (27, 1), (27, 2), (27, 3), (27, 4), (27, 5), (27, 6), (27, 7), (27, 8), (56, 0), (59, 1), (59, 2), (59, 3), (59, 4), (59, 5), (59, 6), (59, 7), (85, 0), (97, 0), (98, 0)] m0 m ∧ zR_K54 m ∧ True)) := by
  intro k
  induction k with
  | zero => exact ⟨fun x2 mh hImh hFmh hba1 hbx2 hH0 hH1 hH2 hRK54mh hM => by exfalso; omega, fun x2 x3 mh hImh hFmh hba1 hbx2 hbx3 hH0 hH1 hH2 hRK54mh hM => by exfalso; omega⟩
  | succ k ih =>
    refine ⟨?_, ?_⟩
    · intro x2 mh hImh hFmh hba1 hbx2 hH0 hH1 hH2 hRK54mh hM
      refine zw_eq (zu_rega_at (zt_T n) (zm_286 n) (zdp_286 n) _ _ _ _ _ _ (zr_286_18 n _ _ a0 a1 x2 mh)) ?_
      have r1 : 0 ≤ (mh a0 6) ∧ (mh a0 6) ≤ 161 := zi_rd hImh hc0 zb_24_6
      have r2 : 0 ≤ (mh 164 8) ∧ (mh 164 8) ≤ 20000 := zi_rd hImh zq_164 zb_25_8
      have r3 : (-2147483648) ≤ (mh 164 11) ∧ (mh 164 11) ≤ 2147483647 := zi_rd hImh zq_164 zb_25_11
      refine zw_ite (fun h4 => ?_) (fun h4 => ?_)
      · exact zw_some ⟨hImh, hFmh, hRK54mh, trivial⟩
      · refine zw_ite (fun h5 => ?_) (fun h5 => ?_)
        · exfalso; omega
        · have hM : (4 - 0) * 1 + (47 - x2) * 6 + 0 < (k : Int) := by omega
          exact ih.2 x2 0 mh hImh hFmh ⟨by omega, by omega⟩ ⟨by omega, by omega⟩ ⟨by omega, by omega⟩ (by omega) (by omega) (by omega) hRK54mh hM
    · intro x2 x3 mh hImh hFmh hba1 hbx2 hbx3 hH0 hH1 hH2 hRK54mh hM
      refine zw_eq (zu_rega_at (zt_T n) (zm_286 n) (zdp_286 n) _ _ _ _ _ _ (zr_286_31 n _ _ a0 a1 x2 x3 mh)) ?_
      have r6 : 0 ≤ (mh a0 6) ∧ (mh a0 6) ≤ 161 := zi_rd hImh hc0 zb_24_6
      have r7 : 0 ≤ (mh 164 8) ∧ (mh 164 8) ≤ 20000 := zi_rd hImh zq_164 zb_25_8
      have r8 : (-2147483648) ≤ (mh 164 11) ∧ (mh 164 11) ≤ 2147483647 := zi_rd hImh zq_164 zb_25_11
      have r9 : 0 ≤ (mh 164 4) ∧ (mh 164 4) ≤ 4 := zi_rd hImh zq_164 zb_25_4
      refine zw_ite (fun h10 => ?_) (fun h10 => ?_)
      · refine zw_ite (fun h11 => ?_) (fun h11 => ?_)
        · refine zw_bd (zw_mono (zk_214_25 n hImh zq_164 ⟨by omega, by omega⟩ ⟨by omega, by omega⟩ (by omega) hRK54mh) (fun v13 m12 hqm12 => ?_))
          obtain ⟨hIm12, hfm12, hvm12⟩ := hqm12
          have hFm12 := zfr_tr hFmh hfm12 rfl
          obtain ⟨hRK54m12, hvm12⟩ := hvm12
          have w14 := zu_w32_id (z := x2 + 1) (by omega) (by omega)
          have r15 : 0 ≤ (m12 a0 6) ∧ (m12 a0 6) ≤ 161 := zi_rd hIm12 hc0 zb_24_6
          have e16 : (m12 a0 6) = (mh a0 6) := (zfr_ap hfm12 hc0 rfl)
          have r17 : 0 ≤ (m12 164 8) ∧ (m12 164 8) ≤ 20000 := zi_rd hIm12 zq_164 zb_25_8
          have r18 : (-2147483648) ≤ (m12 164 11) ∧ (m12 164 11) ≤ 2147483647 := zi_rd hIm12 zq_164 zb_25_11
          have e19 : (m12 164 11) = (mh 164 11) := (zfr_ap hfm12 zq_164 rfl)
          have hM : (47 - (zu_w32 (x2 + 1))) * 6 + 5 < (k : Int) := by omega
          exact zw_le (zu_forget (zu_lr_same (zu_lr_same (zu_lr_same (zu_lr_drop zu_lr_nil))))) (ih.1 (zu_w32 (x2 + 1)) m12 hIm12 hFm12 ⟨by omega, by omega⟩ ⟨by omega, by omega⟩ (by omega) (by omega) (by omega) hRK54m12 hM)
        · have b20 : 0 ≤ (mh a0 6) ∧ (mh a0 6) < 161 := by omega
          refine zw_if b20 ?_
          generalize hmm21 : zu_up mh 154 (mh a0 6) (-1) = m21
          have hIm21 := zi_up hmm21 hImh zq_154 (zb_85 _) (by omega) (by omega)
          have hFm21 := zfr_up hmm21 hFmh zq_154 rfl
          have hRK54m21 := zR_K54_fr (zdis_fr (zfr_up hmm21 (zfr_rf [(85, 0)] _) zq_154 rfl) rfl) hRK54mh
          have r22 : 0 ≤ (m21 a0 6) ∧ (m21 a0 6) ≤ 161 := zi_rd hIm21 hc0 zb_24_6
          have e23 : (m21 a0 6) = (mh a0 6) := (zs_ne hmm21 (Or.inl (zc_ne hc0 zq_154 (by decide))))
          have w24 := zu_w32_id (z := (m21 a0 6) + 1) (by omega) (by omega)
          generalize hmm25 : zu_up m21 a0 6 (zu_w32 ((m21 a0 6) + 1)) = m25
          have hIm25 := zi_up hmm25 hIm21 hc0 zb_24_6 (by omega) (by omega)
          have hFm25 := zfr_up hmm25 hFm21 hc0 rfl
          have hRK54m25 := zR_K54_fr (zdis_fr (zfr_up hmm25 (zfr_rf [(24, 7)] _) hc0 rfl) rfl) hRK54m21
          have r26 : 0 ≤ (m25 164 8) ∧ (m25 164 8) ≤ 20000 := zi_rd hIm25 zq_164 zb_25_8
          have e27 : (m25 164 8) = (mh 164 8) := (Eq.trans (zs_ne hmm25 (Or.inl (zc_ne zq_164 hc0 (by decide)))) (zs_ne hmm21 (Or.inl (zc_ne zq_164 zq_154 (by decide)))))
          refine zw_bd (zw_mono (zk_214_25 n hIm25 zq_164 ⟨by omega, by omega⟩ ⟨by omega, by omega⟩ (by omega) hRK54m25) (fun v29 m28 hqm28 => ?_))
          obtain ⟨hIm28, hfm28, hvm28⟩ := hqm28
          have hFm28 := zfr_tr hFm25 hfm28 rfl
          obtain ⟨hRK54m28, hvm28⟩ := hvm28
          have w30 := zu_w32_id (z := x2 + 1) (by omega) (by omega)
          have r31 : 0 ≤ (m28 a0 6) ∧ (m28 a0 6) ≤ 161 := zi_rd hIm28 hc0 zb_24_6
          have e32 : (m28 a0 6) = (zu_w32 ((m21 a0 6) + 1)) := (Eq.trans (zfr_ap hfm28 hc0 rfl) (zs_eq hmm25))
          have r33 : 0 ≤ (m28 164 8) ∧ (m28 164 8) ≤ 20000 := zi_rd hIm28 zq_164 zb_25_8
          have r34 : (-2147483648) ≤ (m28 164 11) ∧ (m28 164 11) ≤ 2147483647 := zi_rd hIm28 zq_164 zb_25_11
          have e35 : (m28 164 11) = (mh 164 11) := (Eq.trans (zfr_ap hfm28 zq_164 rfl) (Eq.trans (zs_ne hmm25 (Or.inl (zc_ne zq_164 hc0 (by decide)))) (zs_ne hmm21 (Or.inl (zc_ne zq_164 zq_154 (by decide))))))
          have hM : (47 - (zu_w32 (x2 + 1))) * 6 + 5 < (k : Int) := by omega
          exact zw_le (zu_forget (zu_lr_same (zu_lr_same (zu_lr_same (zu_lr_drop zu_lr_nil))))) (ih.1 (zu_w32 (x2 + 1)) m28 hIm28 hFm28 ⟨by omega, by omega⟩ ⟨by omega, by omega⟩ (by omega) (by omega) (by omega) hRK54m28 hM)
      · have b36 : 0 ≤ x3 ∧ x3 < 4 := by omega
        refine zw_if b36 ?_
        have r37 : (-2147483648) ≤ (mh ((164 + 2) + 20 + x3) 4) ∧ (mh ((164 + 2) + 20 + x3) 4) ≤ 2147483647 := zi_rd hImh (zc_96_e (zc_25_3 zq_164) b36) zb_27_4
        refine zw_ite (fun h38 => ?_) (fun h38 => ?_)
        · have w39 := zu_w32_id (z := x3 + 1) (by omega) (by omega)
          have hM : (4 - (zu_w32 (x3 + 1))) * 1 + (47 - x2) * 6 + 0 < (k : Int) := by omega
          exact ih.2 x2 (zu_w32 (x3 + 1)) mh hImh hFmh ⟨by omega, by omega⟩ ⟨by omega, by omega⟩ ⟨by omega, by omega⟩ (by omega) (by omega) (by omega) hRK54mh hM
        · have w40 := zu_w32_id (z := x3 * 48) (by omega) (by omega)
          have b41 : 0 ≤ x3 ∧ x3 < 4 := by omega
          refine zw_if b41 ?_
          have r42 : 0 ≤ (mh ((164 + 2) + 20 + x3) 1) ∧ (mh ((164 + 2) + 20 + x3) 1) ≤ 47 := zi_rd hImh (zc_96_e (zc_25_3 zq_164) b41) zb_27_1
          have w43 := zu_w32_id (z := (zu_w32 (x3 * 48)) + (mh ((164 + 2) + 20 + x3) 1)) (by omega) (by omega)
          have b44 : 0 ≤ (mh a0 6) ∧ (mh a0 6) < 161 := by omega
          refine zw_if b44 ?_
          generalize hmm45 : zu_up mh 154 (mh a0 6) (zu_w32 ((zu_w32 (x3 * 48)) + (mh ((164 + 2) + 20 + x3) 1))) = m45
          have hIm45 := zi_up hmm45 hImh zq_154 (zb_85 _) (by omega) (by omega)
          have hFm45 := zfr_up hmm45 hFmh zq_154 rfl
          have hRK54m45 := zR_K54_fr (zdis_fr (zfr_up hmm45 (zfr_rf [(85, 0)] _) zq_154 rfl) rfl) hRK54mh
          have r46 : 0 ≤ (m45 a0 6) ∧ (m45 a0 6) ≤ 161 := zi_rd hIm45 hc0 zb_24_6
          have e47 : (m45 a0 6) = (mh a0 6) := (zs_ne hmm45 (Or.inl (zc_ne hc0 zq_154 (by decide))))
          have w48 := zu_w32_id (z := (m45 a0 6) + 1) (by omega) (by omega)
          generalize hmm49 : zu_up m45 a0 6 (zu_w32 ((m45 a0 6) + 1)) = m49
          have hIm49 := zi_up hmm49 hIm45 hc0 zb_24_6 (by omega) (by omega)
          have hFm49 := zfr_up hmm49 hFm45 hc0 rfl
          have hRK54m49 := zR_K54_fr (zdis_fr (zfr_up hmm49 (zfr_rf [(24, 7)] _) hc0 rfl) rfl) hRK54m45
          have w50 := zu_w32_id (z := x3 + 1) (by omega) (by omega)
          have r51 : 0 ≤ (m49 a0 6) ∧ (m49 a0 6) ≤ 161 := zi_rd hIm49 hc0 zb_24_6
          have e52 : (m49 a0 6) = (zu_w32 ((m45 a0 6) + 1)) := (zs_eq hmm49)
          have r53 : 0 ≤ (m49 164 8) ∧ (m49 164 8) ≤ 20000 := zi_rd hIm49 zq_164 zb_25_8
          have e54 : (m49 164 8) = (mh 164 8) := (Eq.trans (zs_ne hmm49 (Or.inl (zc_ne zq_164 hc0 (by decide)))) (zs_ne hmm45 (Or.inl (zc_ne zq_164 zq_154 (by decide)))))
          have r55 : (-2147483648) ≤ (m49 164 11) ∧ (m49 164 11) ≤ 2147483647 := zi_rd hIm49 zq_164 zb_25_11
          have e56 : (m49 164 11) = (mh 164 11) := (Eq.trans (zs_ne hmm49 (Or.inl (zc_ne zq_164 hc0 (by decide)))) (zs_ne hmm45 (Or.inl (zc_ne zq_164 zq_154 (by decide)))))
          have hM : (4 - (zu_w32 (x3 + 1))) * 1 + (47 - x2) * 6 + 0 < (k : Int) := by omega
          exact ih.2 x2 (zu_w32 (x3 + 1)) m49 hIm49 hFm49 ⟨by omega, by omega⟩ ⟨by omega, by omega⟩ ⟨by omega, by omega⟩ (by omega) (by omega) (by omega) hRK54m49 hM
set_option maxHeartbeats 4000000 in
theorem zk_286 (n : Nat) {a0 a1 : Int} {m0 : zu_m} (hIm0 : zi_I m0) (hc0 : zcls a0 = 24) (ha1 : 1 ≤ a1 ∧ a1 ≤ 40)    (hRK54m0 : zR_K54 m0) : zw (zu_call (zt_T n) 286 [(33, a0), (0, a1)] m0) (fun v m => zi_I m ∧ zfr [(24, 7), (25, 3), (25, 5), (25, 9), (25, 10), (25, 11), (25, 12), (26, 1), (26, 2), (26, 3), (26, 4), (27, 1), (27, 2), (27, 3), (27, 4), (27, 5), (27, 6), (27, 7), (27, 8), (56, 0), (59, 1), (59, 2), (59, 3), (59, 4), (59, 5), (59, 6), (59, 7), (85, 0), (97, 0), (98, 0)] m0 m ∧ zR_K54 m ∧ True) := by
  have hFm0 : zfr [(24, 7), (25, 3), (25, 5), (25, 9), (25, 10), (25, 11), (25, 12), (26, 1), (26, 2), (26, 3), (26, 4), (27, 1), (27, 2), (27, 3), (27, 4), (27, 5), (27, 6), (27, 7), (27, 8), (56, 0), (59, 1), (59, 2), (59, 3), (59, 4), (59, 5), (59, 6), (59, 7), (85, 0), (97, 0), (98, 0)] m0 m0 := zfr_rf _ _
  refine zw_eq (zu_call_at (zt_T n) (zm_286 n) (zdp_286 n) _ _ _ _ _ rfl (zr_286_0 n _ _ a0 a1 m0)) ?_
  generalize hmm57 : zu_up m0 a0 6 0 = m57
  have hIm57 := zi_up hmm57 hIm0 hc0 zb_24_6 (by omega) (by omega)
  have hFm57 := zfr_up hmm57 hFm0 hc0 rfl
  have hRK54m57 := zR_K54_fr (zdis_fr (zfr_up hmm57 (zfr_rf [(24, 7)] _) hc0 rfl) rfl) hRK54m0
  refine zw_bd (zw_mono (zk_22_25_16 n hIm57 zq_164 zq_89) (fun v59 m58 hqm58 => ?_))
  obtain ⟨hIm58, hfm58, hvm58⟩ := hqm58
  have hFm58 := zfr_tr hFm57 hfm58 rfl
  have hRK54m58 := zR_K54_fr (zdis_fr hfm58 rfl) hRK54m57
  have r60 : 0 ≤ (m58 a0 6) ∧ (m58 a0 6) ≤ 161 := zi_rd hIm58 hc0 zb_24_6
  have e61 : (m58 a0 6) = 0 := (Eq.trans (zfr_ap hfm58 hc0 rfl) (zs_eq hmm57))
  have r62 : (-2147483648) ≤ (m58 164 11) ∧ (m58 164 11) ≤ 2147483647 := zi_rd hIm58 zq_164 zb_25_11
  have hM : (47 - 0) * 6 + 5 < ((288 : Nat) : Int) := by omega
  exact (zl_286 n (m0 := m0) hc0 288).1 0 m58 hIm58 hFm58 ⟨by omega, by omega⟩ ⟨by omega, by omega⟩ (by omega) (by omega) (by omega) hRK54m58 hM
set_option maxHeartbeats 4000000 in
theorem zl_287 (n : Nat) {a0 a1 a2 a3 : Int} {m0 : zu_m} (hc0 : zcls a0 = 24)   : ∀ k : Nat, (∀ (x4 : Int) (mh : zu_m), zi_I mh → zfr [(24, 16), (56, 0), (59, 1), (59, 2), (59, 3), (59, 4), (59, 5), (59, 6), (59, 7), (86, 0), (87, 0), (88, 0), (89, 0), (90, 0), (91, 0), (92, 0)] m0 mh → (1 ≤ a1 ∧ a1 ≤ 2) → (0 ≤ a2 ∧ a2 ≤ 47) → (0 ≤ a3 ∧ a3 ≤ 47) → (0 ≤ x4 ∧ x4 ≤ 161) → (zR_K54 mh) → (161 - x4) * 1 + 0 < (k : Int) → zw (zu_ex (zt_T n) 287 10 [(33, a0), (0, a1), (0, a2), (0, a3), (0, x4)] [] mh) (fun v m => zi_I m ∧ zfr [(24, 16), (56, 0), (59, 1), (59, 2), (59, 3), (59, 4), (59, 5), (59, 6), (59, 7), (86, 0), (87, 0), (88, 0), (89, 0), (90, 0), (91, 0), (92, 0)] m0 m ∧ zR_K54 m ∧ True)) := by
  intro k
  induction k with
  | zero => exact fun x4 mh hImh hFmh hba1 hba2 hba3 hbx4 hRK54mh hM => by exfalso; omega
  | succ k ih =>
    intro x4 mh hImh hFmh hba1 hba2 hba3 hbx4 hRK54mh hM
    refine zw_eq (zu_rega_at (zt_T n) (zm_287 n) (zdp_287 n) _ _ _ _ _ _ (zr_287_10 n _ _ a0 a1 a2 a3 x4 mh)) ?_
    have r1 : 0 ≤ (mh a0 6) ∧ (mh a0 6) ≤ 161 := zi_rd hImh hc0 zb_24_6
    refine zw_ite (fun h2 => ?_) (fun h2 => ?_)
    · refine zw_bd (zw_mono (zk_293 n hImh hc0) (fun v4 m3 hqm3 => ?_))
      obtain ⟨hIm3, hfm3, hvm3⟩ := hqm3
      have hFm3 := zfr_tr hFmh hfm3 rfl
      have hRK54m3 := zR_K54_fr (zdis_fr hfm3 rfl) hRK54mh
      have r5 : (-2147483648) ≤ (m3 a0 15) ∧ (m3 a0 15) ≤ 2147483647 := zi_rd hIm3 hc0 zb_24_15
      refine zw_ite (fun h6 => ?_) (fun h6 => ?_)
      · exact zw_some ⟨hIm3, hFm3, hRK54m3, trivial⟩
      · generalize hmm7 : zu_up m3 a0 15 v4 = m7
        have hIm7 := zi_up hmm7 hIm3 hc0 zb_24_15 (by omega) (by omega)
        have hFm7 := zfr_up hmm7 hFm3 hc0 rfl
        have hRK54m7 := zR_K54_fr (zdis_fr (zfr_up hmm7 (zfr_rf [(24, 16)] _) hc0 rfl) rfl) hRK54m3
        have b8 : 0 ≤ (0 : Int) ∧ (0 : Int) < 2 := by omega
        refine zw_if b8 ?_
        generalize hmm9 : zu_up m7 161 0 a2 = m9
        have hIm9 := zi_up hmm9 hIm7 zq_161 (zb_92 _) (by omega) (by omega)
        have hFm9 := zfr_up hmm9 hFm7 zq_161 rfl
        have hRK54m9 := zR_K54_fr (zdis_fr (zfr_up hmm9 (zfr_rf [(92, 0)] _) zq_161 rfl) rfl) hRK54m7
        have b10 : 0 ≤ (1 : Int) ∧ (1 : Int) < 2 := by omega
        refine zw_if b10 ?_
        generalize hmm11 : zu_up m9 161 1 a3 = m11
        have hIm11 := zi_up hmm11 hIm9 zq_161 (zb_92 _) (by omega) (by omega)
        have hFm11 := zfr_up hmm11 hFm9 zq_161 rfl
        have hRK54m11 := zR_K54_fr (zdis_fr (zfr_up hmm11 (zfr_rf [(92, 0)] _) zq_161 rfl) rfl) hRK54m9
        exact zw_some ⟨hIm11, hFm11, hRK54m11, trivial⟩
    · have b12 : 0 ≤ x4 ∧ x4 < 161 := by omega
      refine zw_if b12 ?_
      have r13 : (-1) ≤ (mh 154 x4) ∧ (mh 154 x4) ≤ 191 := zi_rd hImh zq_154 (zb_85 _)
      refine zw_ite (fun h14 => ?_) (fun h14 => ?_)
      · have b15 : 0 ≤ x4 ∧ x4 < 161 := by omega
        refine zw_if b15 ?_
        refine zw_nif (by omega) ?_
        have d16 : Int.tdiv (mh 154 x4) 48 = (mh 154 x4) / 48 := Int.tdiv_eq_ediv_of_nonneg (by omega)
        have w17 := zu_w32_id (z := Int.tdiv (mh 154 x4) 48) (by omega) (by omega)
        have b18 : 0 ≤ x4 ∧ x4 < 161 := by omega
        refine zw_if b18 ?_
        refine zw_nif (by omega) ?_
        have d19 : Int.tmod (mh 154 x4) 48 = (mh 154 x4) % 48 := Int.tmod_eq_emod_of_nonneg (by omega)
        have r20 : 0 ≤ (mh 89 2) ∧ (mh 89 2) ≤ 16 := zi_rd hImh zq_89 zb_16_2
        have w21 := zu_w32_id (z := (mh 89 2) + a1) (by omega) (by omega)
        refine zw_bd (zw_mono (zk_290 n hImh hc0 ⟨by omega, by omega⟩ ⟨by omega, by omega⟩ ⟨by omega, by omega⟩ hRK54mh) (fun v23 m22 hqm22 => ?_))
        obtain ⟨hIm22, hfm22, hvm22⟩ := hqm22
        have hFm22 := zfr_tr hFmh hfm22 rfl
        obtain ⟨hRK54m22, hvm22⟩ := hvm22
        have w24 := zu_w32_id (z := x4 + 1) (by omega) (by omega)
        have hM : (161 - (zu_w32 (x4 + 1))) * 1 + 0 < (k : Int) := by omega
        exact ih (zu_w32 (x4 + 1)) m22 hIm22 hFm22 ⟨by omega, by omega⟩ ⟨by omega, by omega⟩ ⟨by omega, by omega⟩ ⟨by omega, by omega⟩ hRK54m22 hM
      · have r25 : 0 ≤ (mh 89 2) ∧ (mh 89 2) ≤ 16 := zi_rd hImh zq_89 zb_16_2
        have w26 := zu_w32_id (z := (mh 89 2) + a1) (by omega) (by omega)
        refine zw_bd (zw_mono (zk_289 n hImh hc0 ⟨by omega, by omega⟩) (fun v28 m27 hqm27 => ?_))
        obtain ⟨hIm27, hfm27, hvm27⟩ := hqm27
        have hFm27 := zfr_tr hFmh hfm27 rfl
        have hRK54m27 := zR_K54_fr (zdis_fr hfm27 rfl) hRK54mh
        have w29 := zu_w32_id (z := x4 + 1) (by omega) (by omega)
        have hM : (161 - (zu_w32 (x4 + 1))) * 1 + 0 < (k : Int) := by omega
        exact ih (zu_w32 (x4 + 1)) m27 hIm27 hFm27 ⟨by omega, by omega⟩ ⟨by omega, by omega⟩ ⟨by omega, by omega⟩ ⟨by omega, by omega⟩ hRK54m27 hM
set_option maxHeartbeats 4000000 in
theorem zk_287 (n : Nat) {a0 a1 a2 a3 : Int} {m0 : zu_m} (hIm0 : zi_I m0) (hc0 : zcls a0 = 24) (ha1 : 1 ≤ a1 ∧ a1 ≤ 2) (ha2 : 0 ≤ a2 ∧ a2 ≤ 47) (ha3 : 0 ≤ a3 ∧ a3 ≤ 47)    (hRK54m0 : zR_K54 m0) : zw (zu_call (zt_T n) 287 [(33, a0), (0, a1), (0, a2), (0, a3)] m0) (fun v m => zi_I m ∧ zfr [(24, 16), (56, 0), (59, 1), (59, 2), (59, 3), (59, 4), (59, 5), (59, 6), (59, 7), (86, 0), (87, 0), (88, 0), (89, 0), (90, 0), (91, 0), (92, 0)] m0 m ∧ zR_K54 m ∧ True) := by
  have hFm0 : zfr [(24, 16), (56, 0), (59, 1), (59, 2), (59, 3), (59, 4), (59, 5), (59, 6), (59, 7), (86, 0), (87, 0), (88, 0), (89, 0), (90, 0), (91, 0), (92, 0)] m0 m0 := zfr_rf _ _
  refine zw_eq (zu_call_at (zt_T n) (zm_287 n) (zdp_287 n) _ _ _ _ _ rfl (zr_287_0 n _ _ a0 a1 a2 a3 m0)) ?_
  refine zw_bd (zw_mono (zk_288 n hIm0 hc0 ⟨by omega, by omega⟩ ⟨by omega, by omega⟩ ⟨by omega, by omega⟩) (fun v31 m30 hqm30 => ?_))
  obtain ⟨hIm30, hfm30, hvm30⟩ := hqm30
  have hFm30 := zfr_tr hFm0 hfm30 rfl
  have hRK54m30 := zR_K54_fr (zdis_fr hfm30 rfl) hRK54m0
  have hM : (161 - 0) * 1 + 0 < ((162 : Nat) : Int) := by omega
  exact (zl_287 n (m0 := m0) hc0 162) 0 m30 hIm30 hFm30 ⟨by omega, by omega⟩ ⟨by omega, by omega⟩ ⟨by omega, by omega⟩ ⟨by omega, by omega⟩ hRK54m30 hM
set_option maxHeartbeats 4000000 in
theorem zl_298 (n : Nat) {a0 a1 : Int} {m0 : zu_m} (hc0 : zcls a0 = 24)   : ∀ k : Nat, (∀ (x2 x3 : Int) (mh : zu_m), zi_I mh → zfr [(24, 16), (25, 3), (25, 5), (25, 9), (25, 10), (25, 11), (25, 12), (26, 1), (26, 2), (26, 3), (26, 4), (27, 1), (27, 2), (27, 3), (27, 4), (27, 5), (27, 6), (27, 7), (27, 8), (56, 0), (59, 1), (59, 2), (59, 3), (59, 4), (59, 5), (59, 6), (59, 7), (97, 0), (98, 0)] m0 mh → (1 ≤ a1 ∧ a1 ≤ 200) → (0 ≤ x2 ∧ x2 ≤ 3) → (1 ≤ x3 ∧ x3 ≤ 4) → (1 ≤ mh 89 4 ∧ mh 89 4 ≤ 4) → (zR_K54 mh) → (4 - x3) * 1 + 32 < (k : Int) → zw (zu_ex (zt_T n) 298 4 [(33, a0), (0, a1), (0, x2), (0, x3), (2, 0), (2, 0)] [] mh) (fun v m => zi_I m ∧ zfr [(24, 16), (25, 3), (25, 5), (25, 9), (25, 10), (25, 11), (25, 12), (26, 1), (26, 2), (26, 3), (26, 4), (27, 1), (27, 2), (27, 3), (27, 4), (27, 5), (27, 6), (27, 7), (27, 8), (56, 0), (59, 1), (59, 2), (59, 3), (59, 4), (59, 5), (59, 6), (59, 7), (97, 0), (98, 0)] m0 m ∧ zR_K54 m ∧ (0 ≤ v ∧ v ≤ 30) ∧ ((-2147483648) ≤ m a0 15 ∧ m a0 15 ≤ 1000000))) ∧ (∀ (x2 x3 x4 : Int) (mh : zu_m), zi_I mh → zfr [(24, 16), (25, 3), (25, 5), (25, 9), (25, 10), (25, 11), (25, 12), (26, 1), (26, 2), (26, 3), (26, 4), (27, 1), (27, 2), (27, 3), (27, 4), (27, 5), (27, 6), (27, 7), (27, 8), (56, 0), (59, 1), (59, 2), (59, 3), (59, 4), (59, 5), (59, 6), (59, 7), (97, 0), (98, 0)] m0 mh → (1 ≤ a1 ∧ a1 ≤ 200) → (0 ≤ x2 ∧ x2 ≤ 3) → (0 ≤ x3 ∧ x3 ≤ 30) → (0 ≤ x4 ∧ x4 ≤ 31) → (1 ≤ mh 89 4 ∧ mh 89 4 ≤ 4) → ((-2147483648) ≤ mh a0 15 ∧ mh a0 15 ≤ 1000000) → (zR_K54 mh) → (31 - x4) * 1 + 0 < (k : Int) → zw (zu_ex (zt_T n) 298 61 [(33, a0), (0, a1), (0, x2), (0, x3), (0, x4), (2, 0)] [] mh) (fun v m => zi_I m ∧ zfr [(24, 16), (25, 3), (25, 5), (25, 9), (25, 10), (25, 11), (25, 12), (26, 1), (26, 2), (26, 3), (26, 4), (27, 1), (27, 2), (27, 3), (27, 4), (27, 5), (27, 6), (27, 7), (27, 8), (56, 0), (59, 1), (59, 2), (59, 3), (59, 4), (59, 5), (59, 6), (59, 7), (97, 0), (98, 0)] m0 m ∧ zR_K54 m ∧ (0 ≤ v ∧ v ≤ 30) ∧ ((-2147483648) ≤ m a0 15 ∧ m a0 15 ≤ 1000000))) := by
  intro k
  induction k with
  | zero => exact ⟨fun x2 x3 mh hImh hFmh hba1 hbx2 hbx3 hg3 hRK54mh hM => by exfalso; omega, fun x2 x3 x4 mh hImh hFmh hba1 hbx2 hbx3 hbx4 hg4 hg5 hRK54mh hM => by exfalso; omega⟩
  | succ k ih =>
    refine ⟨?_, ?_⟩
    · intro x2 x3 mh hImh hFmh hba1 hbx2 hbx3 hg3 hRK54mh hM
      refine zw_eq (zu_rega_at (zt_T n) (zm_298 n) (zdp_298 n) _ _ _ _ _ _ (zr_298_4 n _ _ a0 a1 x2 x3 mh)) ?_
      refine zw_ite (fun h1 => ?_) (fun h1 => ?_)
      · generalize hmm2 : zu_up mh a0 15 1000000 = m2
        have hIm2 := zi_up hmm2 hImh hc0 zb_24_15 (by omega) (by omega)
        have hFm2 := zfr_up hmm2 hFmh hc0 rfl
        have hRK54m2 := zR_K54_fr (zdis_fr (zfr_up hmm2 (zfr_rf [(24, 16)] _) hc0 rfl) rfl) hRK54mh
        have r3 : 0 ≤ (m2 89 4) ∧ (m2 89 4) ≤ 4 := zi_rd hIm2 zq_89 zb_16_4
        have e4 : (m2 89 4) = (mh 89 4) := (zs_ne hmm2 (Or.inl (zc_ne zq_89 hc0 (by decide))))
        have r5 : (-2147483648) ≤ (m2 a0 15) ∧ (m2 a0 15) ≤ 2147483647 := zi_rd hIm2 hc0 zb_24_15
        have e6 : (m2 a0 15) = 1000000 := (zs_eq hmm2)
        have hM : (31 - 0) * 1 + 0 < (k : Int) := by omega
        exact ih.2 x2 0 0 m2 hIm2 hFm2 ⟨by omega, by omega⟩ ⟨by omega, by omega⟩ ⟨by omega, by omega⟩ ⟨by omega, by omega⟩ ⟨by omega, by omega⟩ ⟨by omega, by omega⟩ hRK54m2 hM
      · have b7 : 0 ≤ x3 ∧ x3 < 4 := by omega
        refine zw_if b7 ?_
        have r8 : 0 ≤ (mh ((89 + 2) + 20 + x3) 2) ∧ (mh ((89 + 2) + 20 + x3) 2) ≤ 15 := zi_rd hImh (zc_66_e (zc_16_3 zq_89) b7) zb_18_2
        have b9 : 0 ≤ x2 ∧ x2 < 4 := by omega
        refine zw_if b9 ?_
        have r10 : 0 ≤ (mh ((89 + 2) + 20 + x2) 2) ∧ (mh ((89 + 2) + 20 + x2) 2) ≤ 15 := zi_rd hImh (zc_66_e (zc_16_3 zq_89) b9) zb_18_2
        refine zw_ite (fun h11 => ?_) (fun h11 => ?_)
        · have w12 := zu_w32_id (z := x3 + 1) (by omega) (by omega)
          have hM : (4 - (zu_w32 (x3 + 1))) * 1 + 32 < (k : Int) := by omega
          exact ih.1 x2 (zu_w32 (x3 + 1)) mh hImh hFmh ⟨by omega, by omega⟩ ⟨by omega, by omega⟩ ⟨by omega, by omega⟩ ⟨by omega, by omega⟩ hRK54mh hM
        · have w13 := zu_w32_id (z := x3 + 1) (by omega) (by omega)
          have hM : (4 - (zu_w32 (x3 + 1))) * 1 + 32 < (k : Int) := by omega
          exact ih.1 x3 (zu_w32 (x3 + 1)) mh hImh hFmh ⟨by omega, by omega⟩ ⟨by omega, by omega⟩ ⟨by omega, by omega⟩ ⟨by omega, by omega⟩ hRK54mh hM
    · intro x2 x3 x4 mh hImh hFmh hba1 hbx2 hbx3 hbx4 hg4 hg5 hRK54mh hM
      refine zw_eq (zu_rega_at (zt_T n) (zm_298 n) (zdp_298 n) _ _ _ _ _ _ (zr_298_61 n _ _ a0 a1 x2 x3 x4 mh)) ?_
      refine zw_ite (fun h14 => ?_) (fun h14 => ?_)
      · exact zw_some ⟨hImh, hFmh, hRK54mh, ⟨by omega, by omega⟩, ⟨by omega, by omega⟩⟩
      · refine zw_bd (zw_mono (zk_22_25_16 n hImh zq_164 zq_89) (fun v16 m15 hqm15 => ?_))
        obtain ⟨hIm15, hfm15, hvm15⟩ := hqm15
        have hFm15 := zfr_tr hFmh hfm15 rfl
        have hRK54m15 := zR_K54_fr (zdis_fr hfm15 rfl) hRK54mh
        have b17 : 0 ≤ x2 ∧ x2 < 4 := by omega
        refine zw_if b17 ?_
        have r18 : (-2147483648) ≤ (m15 ((164 + 2) + 20 + x2) 4) ∧ (m15 ((164 + 2) + 20 + x2) 4) ≤ 2147483647 := zi_rd hIm15 (zc_96_e (zc_25_3 zq_164) b17) zb_27_4
        have w19 := zu_w32_rg ((m15 ((164 + 2) + 20 + x2) 4) + x4)
        generalize hmm20 : zu_up m15 ((164 + 2) + 20 + x2) 4 (zu_w32 ((m15 ((164 + 2) + 20 + x2) 4) + x4)) = m20
        have hIm20 := zi_up hmm20 hIm15 (zc_96_e (zc_25_3 zq_164) b17) zb_27_4 (by omega) (by omega)
        have hFm20 := zfr_up hmm20 hFm15 (zc_96_e (zc_25_3 zq_164) b17) rfl
        have hRK54m20 := zR_K54_fr (zdis_fr (zfr_up hmm20 (zfr_rf [(27, 5)] _) (zc_96_e (zc_25_3 zq_164) b17) rfl) rfl) hRK54m15
        have r21 : 0 ≤ (m20 164 8) ∧ (m20 164 8) ≤ 20000 := zi_rd hIm20 zq_164 zb_25_8
        have e22 : (m20 164 8) = (m15 164 8) := (zs_ne hmm20 (Or.inl (zc_ne zq_164 (zc_96_e (zc_25_3 zq_164) b17) (by decide))))
        refine zw_bd (zw_mono (zk_214_25 n hIm20 zq_164 ⟨by omega, by omega⟩ ⟨by omega, by omega⟩ (by omega) hRK54m20) (fun v24 m23 hqm23 => ?_))
        obtain ⟨hIm23, hfm23, hvm23⟩ := hqm23
        have hFm23 := zfr_tr hFm20 hfm23 rfl
        obtain ⟨hRK54m23, hvm23⟩ := hvm23
        refine zw_bd (zw_mono (zk_239_25 n hIm23 zq_164) (fun v26 m25 hqm25 => ?_))
        obtain ⟨hIm25, hfm25, hvm25⟩ := hqm25
        have hFm25 := zfr_tr hFm23 hfm25 rfl
        have hRK54m25 := zR_K54_fr (zdis_fr hfm25 rfl) hRK54m23
        have r27 : (-2147483648) ≤ (m25 a0 15) ∧ (m25 a0 15) ≤ 2147483647 := zi_rd hIm25 hc0 zb_24_15
        have e28 : (m25 a0 15) = (mh a0 15) := (Eq.trans (zfr_ap hfm25 hc0 rfl) (Eq.trans (zfr_ap hfm23 hc0 rfl) (Eq.trans (zs_ne hmm20 (Or.inl (zc_ne hc0 (zc_96_e (zc_25_3 zq_164) b17) (by decide)))) (zfr_ap hfm15 hc0 rfl))))
        refine zw_ite (fun h29 => ?_) (fun h29 => ?_)
        · have w30 := zu_w32_id (z := x4 + 1) (by omega) (by omega)
          have r31 : 0 ≤ (m25 89 4) ∧ (m25 89 4) ≤ 4 := zi_rd hIm25 zq_89 zb_16_4
          have e32 : (m25 89 4) = (mh 89 4) := (Eq.trans (zfr_ap hfm25 zq_89 rfl) (Eq.trans (zfr_ap hfm23 zq_89 rfl) (Eq.trans (zs_ne hmm20 (Or.inl (zc_ne zq_89 (zc_96_e (zc_25_3 zq_164) b17) (by decide)))) (zfr_ap hfm15 zq_89 rfl))))
          have hM : (31 - (zu_w32 (x4 + 1))) * 1 + 0 < (k : Int) := by omega
          exact zw_le (zu_forget (zu_lr_same (zu_lr_same (zu_lr_same (zu_lr_same (zu_lr_same (zu_lr_drop zu_lr_nil))))))) (ih.2 x2 x3 (zu_w32 (x4 + 1)) m25 hIm25 hFm25 ⟨by omega, by omega⟩ ⟨by omega, by omega⟩ ⟨by omega, by omega⟩ ⟨by omega, by omega⟩ ⟨by omega, by omega⟩ ⟨by omega, by omega⟩ hRK54m25 hM)
        · generalize hmm33 : zu_up m25 a0 15 v26 = m33
          have hIm33 := zi_up hmm33 hIm25 hc0 zb_24_15 (by omega) (by omega)
          have hFm33 := zfr_up hmm33 hFm25 hc0 rfl
          have hRK54m33 := zR_K54_fr (zdis_fr (zfr_up hmm33 (zfr_rf [(24, 16)] _) hc0 rfl) rfl) hRK54m25
          have w34 := zu_w32_id (z := x4 + 1) (by omega) (by omega)
          have r35 : 0 ≤ (m33 89 4) ∧ (m33 89 4) ≤ 4 := zi_rd hIm33 zq_89 zb_16_4
          have e36 : (m33 89 4) = (mh 89 4) := (Eq.trans (zs_ne hmm33 (Or.inl (zc_ne zq_89 hc0 (by decide)))) (Eq.trans (zfr_ap hfm25 zq_89 rfl) (Eq.trans (zfr_ap hfm23 zq_89 rfl) (Eq.trans (zs_ne hmm20 (Or.inl (zc_ne zq_89 (zc_96_e (zc_25_3 zq_164) b17) (by decide)))) (zfr_ap hfm15 zq_89 rfl)))))
          have r37 : (-2147483648) ≤ (m33 a0 15) ∧ (m33 a0 15) ≤ 2147483647 := zi_rd hIm33 hc0 zb_24_15
          have e38 : (m33 a0 15) = v26 := (zs_eq hmm33)
          have hM : (31 - (zu_w32 (x4 + 1))) * 1 + 0 < (k : Int) := by omega
          exact zw_le (zu_forget (zu_lr_same (zu_lr_same (zu_lr_same (zu_lr_same (zu_lr_same (zu_lr_drop zu_lr_nil))))))) (ih.2 x2 x4 (zu_w32 (x4 + 1)) m33 hIm33 hFm33 ⟨by omega, by omega⟩ ⟨by omega, by omega⟩ ⟨by omega, by omega⟩ ⟨by omega, by omega⟩ ⟨by omega, by omega⟩ ⟨by omega, by omega⟩ hRK54m33 hM)
set_option maxHeartbeats 4000000 in
theorem zk_298 (n : Nat) {a0 a1 : Int} {m0 : zu_m} (hIm0 : zi_I m0) (hc0 : zcls a0 = 24) (ha1 : 1 ≤ a1 ∧ a1 ≤ 200)  (he0 : 1 ≤ m0 89 4 ∧ m0 89 4 ≤ 4)  (hRK54m0 : zR_K54 m0) : zw (zu_call (zt_T n) 298 [(33, a0), (0, a1)] m0) (fun v m => zi_I m ∧ zfr [(24, 16), (25, 3), (25, 5), (25, 9), (25, 10), (25, 11), (25, 12), (26, 1), (26, 2), (26, 3), (26, 4), (27, 1), (27, 2), (27, 3), (27, 4), (27, 5), (27, 6), (27, 7), (27, 8), (56, 0), (59, 1), (59, 2), (59, 3), (59, 4), (59, 5), (59, 6), (59, 7), (97, 0), (98, 0)] m0 m ∧ zR_K54 m ∧ (0 ≤ v ∧ v ≤ 30) ∧ ((-2147483648) ≤ m a0 15 ∧ m a0 15 ≤ 1000000)) := by
  have hFm0 : zfr [(24, 16), (25, 3), (25, 5), (25, 9), (25, 10), (25, 11), (25, 12), (26, 1), (26, 2), (26, 3), (26, 4), (27, 1), (27, 2), (27, 3), (27, 4), (27, 5), (27, 6), (27, 7), (27, 8), (56, 0), (59, 1), (59, 2), (59, 3), (59, 4), (59, 5), (59, 6), (59, 7), (97, 0), (98, 0)] m0 m0 := zfr_rf _ _
  refine zw_eq (zu_call_at (zt_T n) (zm_298 n) (zdp_298 n) _ _ _ _ _ rfl (zr_298_0 n _ _ a0 a1 m0)) ?_
  have hM : (4 - 1) * 1 + 32 < ((36 : Nat) : Int) := by omega
  exact (zl_298 n (m0 := m0) hc0 36).1 0 1 m0 hIm0 hFm0 ⟨by omega, by omega⟩ ⟨by omega, by omega⟩ ⟨by omega, by omega⟩ ⟨by omega, by omega⟩ hRK54m0 hM
set_option maxHeartbeats 4000000 in
theorem zk_299 (n : Nat) {a0 a1 a2 : Int} {m0 : zu_m} (hIm0 : zi_I m0) (hc0 : zcls a0 = 24) (ha1 : 0 ≤ a1 ∧ a1 ≤ 2) (ha2 : 1 ≤ a2 ∧ a2 ≤ 200)    (hRK54m0 : zR_K54 m0) : zw (zu_call (zt_T n) 299 [(33, a0), (0, a1), (0, a2)] m0) (fun v m => zi_I m ∧ zfr [(25, 3), (25, 5), (25, 9), (25, 10), (25, 11), (25, 12), (26, 1), (26, 2), (26, 3), (26, 4), (27, 1), (27, 2), (27, 3), (27, 4), (27, 5), (27, 6), (27, 7), (27, 8), (56, 0), (59, 1), (59, 2), (59, 3), (59, 4), (59, 5), (59, 6), (59, 7), (97, 0), (98, 0)] m0 m ∧ zR_K54 m ∧ ((-2147483648) ≤ v ∧ v ≤ 2147483647) ∧ (0 ≤ m 164 10 ∧ m 164 10 ≤ 2)) := by
  have hFm0 : zfr [(25, 3), (25, 5), (25, 9), (25, 10), (25, 11), (25, 12), (26, 1), (26, 2), (26, 3), (26, 4), (27, 1), (27, 2), (27, 3), (27, 4), (27, 5), (27, 6), (27, 7), (27, 8), (56, 0), (59, 1), (59, 2), (59, 3), (59, 4), (59, 5), (59, 6), (59, 7), (97, 0), (98, 0)] m0 m0 := zfr_rf _ _
  refine zw_eq (zu_call_at (zt_T n) (zm_299 n) (zdp_299 n) _ _ _ _ _ rfl (zr_299_0 n _ _ a0 a1 a2 m0)) ?_
  refine zw_bd (zw_mono (zk_22_25_16 n hIm0 zq_164 zq_89) (fun v2 m1 hqm1 => ?_))
  obtain ⟨hIm1, hfm1, hvm1⟩ := hqm1
  have hFm1 := zfr_tr hFm0 hfm1 rfl
  have hRK54m1 := zR_K54_fr (zdis_fr hfm1 rfl) hRK54m0
  generalize hmm3 : zu_up m1 164 10 a1 = m3
  have hIm3 := zi_up hmm3 hIm1 zq_164 zb_25_10 (by omega) (by omega)
  have hFm3 := zfr_up hmm3 hFm1 zq_164 rfl
  have hRK54m3 := zR_K54_fr (zdis_fr (zfr_up hmm3 (zfr_rf [(25, 11)] _) zq_164 rfl) rfl) hRK54m1
  have r4 : 0 ≤ (m3 164 8) ∧ (m3 164 8) ≤ 20000 := zi_rd hIm3 zq_164 zb_25_8
  have e5 : (m3 164 8) = (m1 164 8) := (zs_ne hmm3 (Or.inr (by decide)))
  refine zw_bd (zw_mono (zk_214_25 n hIm3 zq_164 ⟨by omega, by omega⟩ ⟨by omega, by omega⟩ (by omega) hRK54m3) (fun v7 m6 hqm6 => ?_))
  obtain ⟨hIm6, hfm6, hvm6⟩ := hqm6
  have hFm6 := zfr_tr hFm3 hfm6 rfl
  obtain ⟨hRK54m6, hvm6⟩ := hvm6
  refine zw_bd (zw_mono (zk_240 n hIm6 zq_164) (fun v9 m8 hqm8 => ?_))
  obtain ⟨hIm8, hfm8, hvm8⟩ := hqm8
  have hFm8 := zfr_tr hFm6 hfm8 rfl
  have hRK54m8 := zR_K54_fr (zdis_fr hfm8 rfl) hRK54m6
  have r10 : 0 ≤ (m8 164 10) ∧ (m8 164 10) ≤ 3 := zi_rd hIm8 zq_164 zb_25_10
  have e11 : (m8 164 10) = a1 := (Eq.trans (zfr_ap hfm8 zq_164 rfl) (Eq.trans (zfr_ap hfm6 zq_164 rfl) (zs_eq hmm3)))
  exact zw_some ⟨hIm8, hFm8, hRK54m8, ⟨by omega, by omega⟩, ⟨by omega, by omega⟩⟩
set_option maxHeartbeats 4000000 in
theorem zl_302 (n : Nat) {a0 a1 a2 : Int} {m0 : zu_m} (hc0 : zcls a0 = 24)   : ∀ k : Nat, (∀ (x3 x4 : Int) (mh : zu_m), zi_I mh → zfr [(25, 3), (25, 5), (25, 9), (25, 10), (25, 11), (25, 12), (26, 1), (26, 2), (26, 3), (26, 4), (27, 1), (27, 2), (27, 3), (27, 4), (27, 5), (27, 6), (27, 7), (27, 8), (56, 0), (59, 1), (59, 2), (59, 3), (59, 4), (59, 5), (59, 6), (59, 7), (97, 0), (98, 0)] m0 mh → (0 ≤ a1 ∧ a1 ≤ 3) → (0 ≤ a2 ∧ a2 ≤ 30) → (0 ≤ x3 ∧ x3 ≤ 200) → (0 ≤ x4 ∧ x4 ≤ 200) → (zR_K54 mh) → (200 - x4) * 1 + 0 < (k : Int) → zw (zu_ex (zt_T n) 302 35 [(33, a0), (0, a1), (0, a2), (0, x3), (0, x4)] [] mh) (fun v m => zi_I m ∧ zfr [(25, 3), (25, 5), (25, 9), (25, 10), (25, 11), (25, 12), (26, 1), (26, 2), (26, 3), (26, 4), (27, 1), (27, 2), (27, 3), (27, 4), (27, 5), (27, 6), (27, 7), (27, 8), (56, 0), (59, 1), (59, 2), (59, 3), (59, 4), (59, 5), (59, 6), (59, 7), (97, 0), (98, 0)] m0 m ∧ zR_K54 m ∧ (0 ≤ v ∧ v ≤ 1))) := by
  intro k
  induction k with
  | zero => exact fun x3 x4 mh hImh hFmh hba1 hba2 hbx3 hbx4 hRK54mh hM => by exfalso; omega
  | succ k ih =>
    intro x3 x4 mh hImh hFmh hba1 hba2 hbx3 hbx4 hRK54mh hM
    refine zw_eq (zu_rega_at (zt_T n) (zm_302 n) (zdp_302 n) _ _ _ _ _ _ (zr_302_35 n _ _ a0 a1 a2 x3 x4 mh)) ?_
    refine zw_ite (fun h1 => ?_) (fun h1 => ?_)
    · refine zw_b (by omega) ?_
      exact zw_some ⟨hImh, hFmh, hRK54mh, ⟨by omega, by omega⟩⟩
    · refine zw_ite (fun h2 => ?_) (fun h2 => ?_)
      · exfalso; omega
      · have r3 : 0 ≤ (mh 164 8) ∧ (mh 164 8) ≤ 20000 := zi_rd hImh zq_164 zb_25_8
        refine zw_bd (zw_mono (zk_214_25 n hImh zq_164 ⟨by omega, by omega⟩ ⟨by omega, by omega⟩ (by omega) hRK54mh) (fun v5 m4 hqm4 => ?_))
        obtain ⟨hIm4, hfm4, hvm4⟩ := hqm4
        have hFm4 := zfr_tr hFmh hfm4 rfl
        obtain ⟨hRK54m4, hvm4⟩ := hvm4
        refine zw_bd (zw_mono (zk_277 n hIm4 zq_141 zq_164) (fun v7 m6 hqm6 => ?_))
        obtain ⟨hIm6, hfm6, hvm6⟩ := hqm6
        have hFm6 := zfr_tr hFm4 hfm6 rfl
        have hRK54m6 := zR_K54_fr (zdis_fr hfm6 rfl) hRK54m4
        refine zw_ite (fun h8 => ?_) (fun h8 => ?_)
        · have w9 := zu_w32_id (z := x4 + 1) (by omega) (by omega)
          have hM : (200 - (zu_w32 (x4 + 1))) * 1 + 0 < (k : Int) := by omega
          exact ih x3 (zu_w32 (x4 + 1)) m6 hIm6 hFm6 ⟨by omega, by omega⟩ ⟨by omega, by omega⟩ ⟨by omega, by omega⟩ ⟨by omega, by omega⟩ hRK54m6 hM
        · refine zw_b (by omega) ?_
          exact zw_some ⟨hIm6, hFm6, hRK54m6, ⟨by omega, by omega⟩⟩
set_option maxHeartbeats 4000000 in
theorem zk_302 (n : Nat) {a0 a1 a2 : Int} {m0 : zu_m} (hIm0 : zi_I m0) (hc0 : zcls a0 = 24) (ha1 : 0 ≤ a1 ∧ a1 ≤ 3) (ha2 : 0 ≤ a2 ∧ a2 ≤ 30)    (hRK54m0 : zR_K54 m0) : zw (zu_call (zt_T n) 302 [(33, a0), (0, a1), (0, a2)] m0) (fun v m => zi_I m ∧ zfr [(25, 3), (25, 5), (25, 9), (25, 10), (25, 11), (25, 12), (26, 1), (26, 2), (26, 3), (26, 4), (27, 1), (27, 2), (27, 3), (27, 4), (27, 5), (27, 6), (27, 7), (27, 8), (56, 0), (59, 1), (59, 2), (59, 3), (59, 4), (59, 5), (59, 6), (59, 7), (97, 0), (98, 0)] m0 m ∧ zR_K54 m ∧ (0 ≤ v ∧ v ≤ 1)) := by
  have hFm0 : zfr [(25, 3), (25, 5), (25, 9), (25, 10), (25, 11), (25, 12), (26, 1), (26, 2), (26, 3), (26, 4), (27, 1), (27, 2), (27, 3), (27, 4), (27, 5), (27, 6), (27, 7), (27, 8), (56, 0), (59, 1), (59, 2), (59, 3), (59, 4), (59, 5), (59, 6), (59, 7), (97, 0), (98, 0)] m0 m0 := zfr_rf _ _
  refine zw_eq (zu_call_at (zt_T n) (zm_302 n) (zdp_302 n) _ _ _ _ _ rfl (zr_302_0 n _ _ a0 a1 a2 m0)) ?_
  refine zw_bd (zw_mono (zk_22_25_13 n hIm0 zq_164 zq_63) (fun v11 m10 hqm10 => ?_))
  obtain ⟨hIm10, hfm10, hvm10⟩ := hqm10
  have hFm10 := zfr_tr hFm0 hfm10 rfl
  have hRK54m10 := zR_K54_fr (zdis_fr hfm10 rfl) hRK54m0
  have b12 : 0 ≤ a1 ∧ a1 < 4 := by omega
  refine zw_if b12 ?_
  generalize hmm13 : zu_up m10 ((164 + 2) + 20 + a1) 4 a2 = m13
  have hIm13 := zi_up hmm13 hIm10 (zc_96_e (zc_25_3 zq_164) b12) zb_27_4 (by omega) (by omega)
  have hFm13 := zfr_up hmm13 hFm10 (zc_96_e (zc_25_3 zq_164) b12) rfl
  have hRK54m13 := zR_K54_fr (zdis_fr (zfr_up hmm13 (zfr_rf [(27, 5)] _) (zc_96_e (zc_25_3 zq_164) b12) rfl) rfl) hRK54m10
  refine zw_bd (zw_mono (zk_276 n hIm13 zq_141) (fun v15 m14 hqm14 => ?_))
  obtain ⟨hIm14, hfm14, hvm14⟩ := hqm14
  have hFm14 := zfr_tr hFm13 hfm14 rfl
  have hRK54m14 := zR_K54_fr (zdis_fr hfm14 rfl) hRK54m13
  have hM : (200 - 0) * 1 + 0 < ((201 : Nat) : Int) := by omega
  exact (zl_302 n (m0 := m0) hc0 201) v15 0 m14 hIm14 hFm14 ⟨by omega, by omega⟩ ⟨by omega, by omega⟩ ⟨by omega, by omega⟩ ⟨by omega, by omega⟩ hRK54m14 hM
set_option maxHeartbeats 4000000 in
theorem zl_303 (n : Nat) {a0 a1 a2 a3 a4 : Int} {m0 : zu_m} (hc0 : zcls a0 = 24)   : ∀ k : Nat, (∀ (x5 x6 x7 : Int) (mh : zu_m), zi_I mh → zfr [(25, 3), (25, 5), (25, 9), (25, 10), (25, 11), (25, 12), (26, 1), (26, 2), (26, 3), (26, 4), (27, 1), (27, 2), (27, 3), (27, 4), (27, 5), (27, 6), (27, 7), (27, 8), (56, 0), (59, 1), (59, 2), (59, 3), (59, 4), (59, 5), (59, 6), (59, 7), (97, 0), (98, 0)] m0 mh → (0 ≤ a1 ∧ a1 ≤ 2147483647) → (1 ≤ a2 ∧ a2 ≤ 200) → (0 ≤ a3 ∧ a3 ≤ 3) → (0 ≤ a4 ∧ a4 ≤ 16) → ((-2147483648) ≤ x5 ∧ x5 ≤ 2147483647) → ((-2147483648) ≤ x6 ∧ x6 ≤ 2147483647) → (0 ≤ x7 ∧ x7 ≤ 10) → (zR_K54 mh) → (10 - x7) * 1 + 0 < (k : Int) → zw (zu_ex (zt_T n) 303 9 [(33, a0), (0, a1), (0, a2), (0, a3), (0, a4), (0, x5), (0, x6), (0, x7)] [] mh) (fun v m => zi_I m ∧ zfr [(25, 3), (25, 5), (25, 9), (25, 10), (25, 11), (25, 12), (26, 1), (26, 2), (26, 3), (26, 4), (27, 1), (27, 2), (27, 3), (27, 4), (27, 5), (27, 6), (27, 7), (27, 8), (56, 0), (59, 1), (59, 2), (59, 3), (59, 4), (59, 5), (59, 6), (59, 7), (97, 0), (98, 0)] m0 m ∧ zR_K54 m ∧ ((-2147483648) ≤ v ∧ v ≤ 2147483647))) := by
  intro k
  induction k with
  | zero => exact fun x5 x6 x7 mh hImh hFmh hba1 hba2 hba3 hba4 hbx5 hbx6 hbx7 hRK54mh hM => by exfalso; omega
  | succ k ih =>
    intro x5 x6 x7 mh hImh hFmh hba1 hba2 hba3 hba4 hbx5 hbx6 hbx7 hRK54mh hM
    refine zw_eq (zu_rega_at (zt_T n) (zm_303 n) (zdp_303 n) _ _ _ _ _ _ (zr_303_9 n _ _ a0 a1 a2 a3 a4 x5 x6 x7 mh)) ?_
    refine zw_ite (fun h1 => ?_) (fun h1 => ?_)
    · exact zw_some ⟨hImh, hFmh, hRK54mh, ⟨by omega, by omega⟩⟩
    · refine zw_bd (zw_mono (zk_22_25_16 n hImh zq_164 zq_89) (fun v3 m2 hqm2 => ?_))
      obtain ⟨hIm2, hfm2, hvm2⟩ := hqm2
      have hFm2 := zfr_tr hFmh hfm2 rfl
      have hRK54m2 := zR_K54_fr (zdis_fr hfm2 rfl) hRK54mh
      generalize hmm4 : zu_up m2 164 9 x6 = m4
      have hIm4 := zi_up hmm4 hIm2 zq_164 zb_25_9 (by omega) (by omega)
      have hFm4 := zfr_up hmm4 hFm2 zq_164 rfl
      have hRK54m4 := zR_K54_fr (zdis_fr (zfr_up hmm4 (zfr_rf [(25, 10)] _) zq_164 rfl) rfl) hRK54m2
      have r5 : 0 ≤ (m4 164 8) ∧ (m4 164 8) ≤ 20000 := zi_rd hIm4 zq_164 zb_25_8
      have e6 : (m4 164 8) = (m2 164 8) := (zs_ne hmm4 (Or.inr (by decide)))
      refine zw_bd (zw_mono (zk_214_25 n hIm4 zq_164 ⟨by omega, by omega⟩ ⟨by omega, by omega⟩ (by omega) hRK54m4) (fun v8 m7 hqm7 => ?_))
      obtain ⟨hIm7, hfm7, hvm7⟩ := hqm7
      have hFm7 := zfr_tr hFm4 hfm7 rfl
      obtain ⟨hRK54m7, hvm7⟩ := hvm7
      have r9 : (-2147483648) ≤ (m7 164 9) ∧ (m7 164 9) ≤ 2147483647 := zi_rd hIm7 zq_164 zb_25_9
      have b10 : 0 ≤ a3 ∧ a3 < 4 := by omega
      refine zw_if b10 ?_
      have r11 : (-2147483648) ≤ (m7 ((164 + 2) + 20 + a3) 6) ∧ (m7 ((164 + 2) + 20 + a3) 6) ≤ 2147483647 := zi_rd hIm7 (zc_96_e (zc_25_3 zq_164) b10) zb_27_6
      refine zw_ite (fun h12 => ?_) (fun h12 => ?_)
      · have w13 := zu_w32_id (z := x7 + 1) (by omega) (by omega)
        have hM : (10 - (zu_w32 (x7 + 1))) * 1 + 0 < (k : Int) := by omega
        exact ih x5 (m7 164 9) (zu_w32 (x7 + 1)) m7 hIm7 hFm7 ⟨by omega, by omega⟩ ⟨by omega, by omega⟩ ⟨by omega, by omega⟩ ⟨by omega, by omega⟩ ⟨by omega, by omega⟩ ⟨by omega, by omega⟩ ⟨by omega, by omega⟩ hRK54m7 hM
      · have w14 := zu_w32_rg (x5 + 1)
        have w15 := zu_w32_id (z := x7 + 1) (by omega) (by omega)
        have hM : (10 - (zu_w32 (x7 + 1))) * 1 + 0 < (k : Int) := by omega
        exact ih (zu_w32 (x5 + 1)) (m7 164 9) (zu_w32 (x7 + 1)) m7 hIm7 hFm7 ⟨by omega, by omega⟩ ⟨by omega, by omega⟩ ⟨by omega, by omega⟩ ⟨by omega, by omega⟩ ⟨by omega, by omega⟩ ⟨by omega, by omega⟩ ⟨by omega, by omega⟩ hRK54m7 hM
set_option maxHeartbeats 4000000 in
theorem zk_303 (n : Nat) {a0 a1 a2 a3 a4 : Int} {m0 : zu_m} (hIm0 : zi_I m0) (hc0 : zcls a0 = 24) (ha1 : 0 ≤ a1 ∧ a1 ≤ 2147483647) (ha2 : 1 ≤ a2 ∧ a2 ≤ 200) (ha3 : 0 ≤ a3 ∧ a3 ≤ 3) (ha4 : 0 ≤ a4 ∧ a4 ≤ 16)    (hRK54m0 : zR_K54 m0) : zw (zu_call (zt_T n) 303 [(33, a0), (0, a1), (0, a2), (0, a3), (0, a4)] m0) (fun v m => zi_I m ∧ zfr [(25, 3), (25, 5), (25, 9), (25, 10), (25, 11), (25, 12), (26, 1), (26, 2), (26, 3), (26, 4), (27, 1), (27, 2), (27, 3), (27, 4), (27, 5), (27, 6), (27, 7), (27, 8), (56, 0), (59, 1), (59, 2), (59, 3), (59, 4), (59, 5), (59, 6), (59, 7), (97, 0), (98, 0)] m0 m ∧ zR_K54 m ∧ ((-2147483648) ≤ v ∧ v ≤ 2147483647)) := by
  have hFm0 : zfr [(25, 3), (25, 5), (25, 9), (25, 10), (25, 11), (25, 12), (26, 1), (26, 2), (26, 3), (26, 4), (27, 1), (27, 2), (27, 3), (27, 4), (27, 5), (27, 6), (27, 7), (27, 8), (56, 0), (59, 1), (59, 2), (59, 3), (59, 4), (59, 5), (59, 6), (59, 7), (97, 0), (98, 0)] m0 m0 := zfr_rf _ _
  refine zw_eq (zu_call_at (zt_T n) (zm_303 n) (zdp_303 n) _ _ _ _ _ rfl (zr_303_0 n _ _ a0 a1 a2 a3 a4 m0)) ?_
  have hM : (10 - 0) * 1 + 0 < ((11 : Nat) : Int) := by omega
  exact (zl_303 n (m0 := m0) hc0 11) 0 a1 0 m0 hIm0 hFm0 ⟨by omega, by omega⟩ ⟨by omega, by omega⟩ ⟨by omega, by omega⟩ ⟨by omega, by omega⟩ ⟨by omega, by omega⟩ ⟨by omega, by omega⟩ ⟨by omega, by omega⟩ hRK54m0 hM
set_option maxHeartbeats 4000000 in
theorem zl_304 (n : Nat) {a0 a1 a2 a3 : Int} {m0 : zu_m} (hc0 : zcls a0 = 24)   : ∀ k : Nat, (∀ (x4 : Int) (mh : zu_m), zi_I mh → zfr [(25, 3), (25, 5), (25, 9), (25, 10), (25, 11), (25, 12), (26, 1), (26, 2), (26, 3), (26, 4), (27, 1), (27, 2), (27, 3), (27, 4), (27, 5), (27, 6), (27, 7), (27, 8), (56, 0), (59, 1), (59, 2), (59, 3), (59, 4), (59, 5), (59, 6), (59, 7), (97, 0), (98, 0)] m0 mh → (0 ≤ a1 ∧ a1 ≤ 4) → (0 ≤ a2 ∧ a2 ≤ 3) → (0 ≤ a3 ∧ a3 ≤ 200) → (0 ≤ x4 ∧ x4 ≤ 4) → (0 ≤ mh 164 8 ∧ mh 164 8 ≤ 9999) → (zR_K54 mh) → (4 - x4) * 1 + 0 < (k : Int) → zw (zu_ex (zt_T n) 304 28 [(33, a0), (0, a1), (0, a2), (0, a3), (0, x4), (2, 0)] [] mh) (fun v m => zi_I m ∧ zfr [(25, 3), (25, 5), (25, 9), (25, 10), (25, 11), (25, 12), (26, 1), (26, 2), (26, 3), (26, 4), (27, 1), (27, 2), (27, 3), (27, 4), (27, 5), (27, 6), (27, 7), (27, 8), (56, 0), (59, 1), (59, 2), (59, 3), (59, 4), (59, 5), (59, 6), (59, 7), (97, 0), (98, 0)] m0 m ∧ zR_K54 m ∧ ((-2147483648) ≤ v ∧ v ≤ 2147483647))) := by
  intro k
  induction k with
  | zero => exact fun x4 mh hImh hFmh hba1 hba2 hba3 hbx4 hg4 hRK54mh hM => by exfalso; omega
  | succ k ih =>
    intro x4 mh hImh hFmh hba1 hba2 hba3 hbx4 hg4 hRK54mh hM
    refine zw_eq (zu_rega_at (zt_T n) (zm_304 n) (zdp_304 n) _ _ _ _ _ _ (zr_304_28 n _ _ a0 a1 a2 a3 x4 mh)) ?_
    have r1 : 0 ≤ (mh 164 4) ∧ (mh 164 4) ≤ 4 := zi_rd hImh zq_164 zb_25_4
    refine zw_ite (fun h2 => ?_) (fun h2 => ?_)
    · refine zw_bd (zw_mono (zk_214_25 n hImh zq_164 ⟨by omega, by omega⟩ ⟨by omega, by omega⟩ (by omega) hRK54mh) (fun v4 m3 hqm3 => ?_))
      obtain ⟨hIm3, hfm3, hvm3⟩ := hqm3
      have hFm3 := zfr_tr hFmh hfm3 rfl
      obtain ⟨hRK54m3, hvm3⟩ := hvm3
      refine zw_bd (zw_mono (zk_234_25 n hIm3 zq_164) (fun v6 m5 hqm5 => ?_))
      obtain ⟨hIm5, hfm5, hvm5⟩ := hqm5
      have hFm5 := zfr_tr hFm3 hfm5 rfl
      have hRK54m5 := zR_K54_fr (zdis_fr hfm5 rfl) hRK54m3
      exact zw_some ⟨hIm5, hFm5, hRK54m5, ⟨by omega, by omega⟩⟩
    · have b7 : 0 ≤ x4 ∧ x4 < 4 := by omega
      refine zw_if b7 ?_
      refine zw_ite (fun h8 => ?_) (fun h8 => ?_)
      · refine zw_ite (fun h9 => ?_) (fun h9 => ?_)
        · refine zw_ite (fun h10 => ?_) (fun h10 => ?_)
          · refine zw_ite (fun h11 => ?_) (fun h11 => ?_)
            · have w12 := zu_w32_id (z := x4 + 1) (by omega) (by omega)
              have hM : (4 - (zu_w32 (x4 + 1))) * 1 + 0 < (k : Int) := by omega
              exact zw_le (zu_forget (zu_lr_same (zu_lr_same (zu_lr_same (zu_lr_same (zu_lr_same (zu_lr_drop zu_lr_nil))))))) (ih (zu_w32 (x4 + 1)) mh hImh hFmh ⟨by omega, by omega⟩ ⟨by omega, by omega⟩ ⟨by omega, by omega⟩ ⟨by omega, by omega⟩ ⟨by omega, by omega⟩ hRK54mh hM)
            · generalize hmm13 : zu_up mh ((164 + 2) + 20 + x4) 3 0 = m13
              have hIm13 := zi_up hmm13 hImh (zc_96_e (zc_25_3 zq_164) b7) zb_27_3 (by omega) (by omega)
              have hFm13 := zfr_up hmm13 hFmh (zc_96_e (zc_25_3 zq_164) b7) rfl
              have hRK54m13 := zR_K54_fr (zdis_fr (zfr_up hmm13 (zfr_rf [(27, 4)] _) (zc_96_e (zc_25_3 zq_164) b7) rfl) rfl) hRK54mh
              have w14 := zu_w32_id (z := x4 + 1) (by omega) (by omega)
              have r15 : 0 ≤ (m13 164 8) ∧ (m13 164 8) ≤ 20000 := zi_rd hIm13 zq_164 zb_25_8
              have e16 : (m13 164 8) = (mh 164 8) := (zs_ne hmm13 (Or.inl (zc_ne zq_164 (zc_96_e (zc_25_3 zq_164) b7) (by decide))))
              have hM : (4 - (zu_w32 (x4 + 1))) * 1 + 0 < (k : Int) := by omega
              exact zw_le (zu_forget (zu_lr_same (zu_lr_same (zu_lr_same (zu_lr_same (zu_lr_same (zu_lr_drop zu_lr_nil))))))) (ih (zu_w32 (x4 + 1)) m13 hIm13 hFm13 ⟨by omega, by omega⟩ ⟨by omega, by omega⟩ ⟨by omega, by omega⟩ ⟨by omega, by omega⟩ ⟨by omega, by omega⟩ hRK54m13 hM)
          · generalize hmm17 : zu_up mh ((164 + 2) + 20 + x4) 4 0 = m17
            have hIm17 := zi_up hmm17 hImh (zc_96_e (zc_25_3 zq_164) b7) zb_27_4 (by omega) (by omega)
            have hFm17 := zfr_up hmm17 hFmh (zc_96_e (zc_25_3 zq_164) b7) rfl
            have hRK54m17 := zR_K54_fr (zdis_fr (zfr_up hmm17 (zfr_rf [(27, 5)] _) (zc_96_e (zc_25_3 zq_164) b7) rfl) rfl) hRK54mh
            have w18 := zu_w32_id (z := x4 + 1) (by omega) (by omega)
            have r19 : 0 ≤ (m17 164 8) ∧ (m17 164 8) ≤ 20000 := zi_rd hIm17 zq_164 zb_25_8
            have e20 : (m17 164 8) = (mh 164 8) := (zs_ne hmm17 (Or.inl (zc_ne zq_164 (zc_96_e (zc_25_3 zq_164) b7) (by decide))))
            have hM : (4 - (zu_w32 (x4 + 1))) * 1 + 0 < (k : Int) := by omega
            exact zw_le (zu_forget (zu_lr_same (zu_lr_same (zu_lr_same (zu_lr_same (zu_lr_same (zu_lr_drop zu_lr_nil))))))) (ih (zu_w32 (x4 + 1)) m17 hIm17 hFm17 ⟨by omega, by omega⟩ ⟨by omega, by omega⟩ ⟨by omega, by omega⟩ ⟨by omega, by omega⟩ ⟨by omega, by omega⟩ hRK54m17 hM)
        · refine zw_ite (fun h21 => ?_) (fun h21 => ?_)
          · refine zw_ite (fun h22 => ?_) (fun h22 => ?_)
            · refine zw_ite (fun h23 => ?_) (fun h23 => ?_)
              · have w24 := zu_w32_id (z := x4 + 1) (by omega) (by omega)
                have hM : (4 - (zu_w32 (x4 + 1))) * 1 + 0 < (k : Int) := by omega
                exact zw_le (zu_forget (zu_lr_same (zu_lr_same (zu_lr_same (zu_lr_same (zu_lr_same (zu_lr_drop zu_lr_nil))))))) (ih (zu_w32 (x4 + 1)) mh hImh hFmh ⟨by omega, by omega⟩ ⟨by omega, by omega⟩ ⟨by omega, by omega⟩ ⟨by omega, by omega⟩ ⟨by omega, by omega⟩ hRK54mh hM)
              · exfalso; omega
            · exfalso; omega
          · generalize hmm25 : zu_up mh ((164 + 2) + 20 + x4) 4 1000000 = m25
            have hIm25 := zi_up hmm25 hImh (zc_96_e (zc_25_3 zq_164) b7) zb_27_4 (by omega) (by omega)
            have hFm25 := zfr_up hmm25 hFmh (zc_96_e (zc_25_3 zq_164) b7) rfl
            have hRK54m25 := zR_K54_fr (zdis_fr (zfr_up hmm25 (zfr_rf [(27, 5)] _) (zc_96_e (zc_25_3 zq_164) b7) rfl) rfl) hRK54mh
            have w26 := zu_w32_id (z := x4 + 1) (by omega) (by omega)
            have r27 : 0 ≤ (m25 164 8) ∧ (m25 164 8) ≤ 20000 := zi_rd hIm25 zq_164 zb_25_8
            have e28 : (m25 164 8) = (mh 164 8) := (zs_ne hmm25 (Or.inl (zc_ne zq_164 (zc_96_e (zc_25_3 zq_164) b7) (by decide))))
            have hM : (4 - (zu_w32 (x4 + 1))) * 1 + 0 < (k : Int) := by omega
            exact zw_le (zu_forget (zu_lr_same (zu_lr_same (zu_lr_same (zu_lr_same (zu_lr_same (zu_lr_drop zu_lr_nil))))))) (ih (zu_w32 (x4 + 1)) m25 hIm25 hFm25 ⟨by omega, by omega⟩ ⟨by omega, by omega⟩ ⟨by omega, by omega⟩ ⟨by omega, by omega⟩ ⟨by omega, by omega⟩ hRK54m25 hM)
      · generalize hmm29 : zu_up mh ((164 + 2) + 20 + x4) 2 11 = m29
        have hIm29 := zi_up hmm29 hImh (zc_96_e (zc_25_3 zq_164) b7) zb_27_2 (by omega) (by omega)
        have hFm29 := zfr_up hmm29 hFmh (zc_96_e (zc_25_3 zq_164) b7) rfl
        have hRK54m29 := zR_K54_fr (zdis_fr (zfr_up hmm29 (zfr_rf [(27, 3)] _) (zc_96_e (zc_25_3 zq_164) b7) rfl) rfl) hRK54mh
        have w30 := zu_w32_id (z := x4 + 1) (by omega) (by omega)
        have r31 : 0 ≤ (m29 164 8) ∧ (m29 164 8) ≤ 20000 := zi_rd hIm29 zq_164 zb_25_8
        have e32 : (m29 164 8) = (mh 164 8) := (zs_ne hmm29 (Or.inl (zc_ne zq_164 (zc_96_e (zc_25_3 zq_164) b7) (by decide))))
        have hM : (4 - (zu_w32 (x4 + 1))) * 1 + 0 < (k : Int) := by omega
        exact zw_le (zu_forget (zu_lr_same (zu_lr_same (zu_lr_same (zu_lr_same (zu_lr_same (zu_lr_drop zu_lr_nil))))))) (ih (zu_w32 (x4 + 1)) m29 hIm29 hFm29 ⟨by omega, by omega⟩ ⟨by omega, by omega⟩ ⟨by omega, by omega⟩ ⟨by omega, by omega⟩ ⟨by omega, by omega⟩ hRK54m29 hM)
set_option maxHeartbeats 4000000 in
theorem zk_304 (n : Nat) {a0 a1 a2 a3 : Int} {m0 : zu_m} (hIm0 : zi_I m0) (hc0 : zcls a0 = 24) (ha1 : 0 ≤ a1 ∧ a1 ≤ 4) (ha2 : 0 ≤ a2 ∧ a2 ≤ 3) (ha3 : 0 ≤ a3 ∧ a3 ≤ 200)    (hRK54m0 : zR_K54 m0) : zw (zu_call (zt_T n) 304 [(33, a0), (0, a1), (0, a2), (0, a3)] m0) (fun v m => zi_I m ∧ zfr [(25, 3), (25, 5), (25, 9), (25, 10), (25, 11), (25, 12), (26, 1), (26, 2), (26, 3), (26, 4), (27, 1), (27, 2), (27, 3), (27, 4), (27, 5), (27, 6), (27, 7), (27, 8), (56, 0), (59, 1), (59, 2), (59, 3), (59, 4), (59, 5), (59, 6), (59, 7), (97, 0), (98, 0)] m0 m ∧ zR_K54 m ∧ ((-2147483648) ≤ v ∧ v ≤ 2147483647)) := by
  have hFm0 : zfr [(25, 3), (25, 5), (25, 9), (25, 10), (25, 11), (25, 12), (26, 1), (26, 2), (26, 3), (26, 4), (27, 1), (27, 2), (27, 3), (27, 4), (27, 5), (27, 6), (27, 7), (27, 8), (56, 0), (59, 1), (59, 2), (59, 3), (59, 4), (59, 5), (59, 6), (59, 7), (97, 0), (98, 0)] m0 m0 := zfr_rf _ _
  refine zw_eq (zu_call_at (zt_T n) (zm_304 n) (zdp_304 n) _ _ _ _ _ rfl (zr_304_0 n _ _ a0 a1 a2 a3 m0)) ?_
  refine zw_bd (zw_mono (zk_22_25_16 n hIm0 zq_164 zq_89) (fun v34 m33 hqm33 => ?_))
  obtain ⟨hIm33, hfm33, hvm33⟩ := hqm33
  have hFm33 := zfr_tr hFm0 hfm33 rfl
  have hRK54m33 := zR_K54_fr (zdis_fr hfm33 rfl) hRK54m0
  refine zw_ite (fun h35 => ?_) (fun h35 => ?_)
  · have hM : (4 - 0) * 1 + 0 < ((5 : Nat) : Int) := by omega
    exact (zl_304 n (m0 := m0) hc0 5) 0 m33 hIm33 hFm33 ⟨by omega, by omega⟩ ⟨by omega, by omega⟩ ⟨by omega, by omega⟩ ⟨by omega, by omega⟩ ⟨by omega, by omega⟩ hRK54m33 hM
  · generalize hmm36 : zu_up m33 164 11 1000000 = m36
    have hIm36 := zi_up hmm36 hIm33 zq_164 zb_25_11 (by omega) (by omega)
    have hFm36 := zfr_up hmm36 hFm33 zq_164 rfl
    have hRK54m36 := zR_K54_fr (zdis_fr (zfr_up hmm36 (zfr_rf [(25, 12)] _) zq_164 rfl) rfl) hRK54m33
    have r37 : 0 ≤ (m36 164 8) ∧ (m36 164 8) ≤ 20000 := zi_rd hIm36 zq_164 zb_25_8
    have e38 : (m36 164 8) = (m33 164 8) := (zs_ne hmm36 (Or.inr (by decide)))
    have hM : (4 - 0) * 1 + 0 < ((5 : Nat) : Int) := by omega
    exact (zl_304 n (m0 := m0) hc0 5) 0 m36 hIm36 hFm36 ⟨by omega, by omega⟩ ⟨by omega, by omega⟩ ⟨by omega, by omega⟩ ⟨by omega, by omega⟩ ⟨by omega, by omega⟩ hRK54m36 hM
set_option maxHeartbeats 4000000 in
theorem zl_12 (n : Nat) {a0 a1 : Int} {m0 : zu_m} (hc0 : zcls a0 = 3)   : ∀ k : Nat, (∀ (x2 x3 : Int) (mh : zu_m), zi_I mh → zfr [(3, 5), (3, 6), (3, 7), (3, 8), (3, 9), (3, 10), (3, 11), (4, 1), (4, 2), (4, 3), (4, 4), (4, 5), (4, 6), (5, 6), (5, 7), (6, 3), (6, 5), (6, 9), (6, 10), (6, 11), (6, 12), (7, 1), (7, 2), (7, 3), (7, 4), (8, 1), (8, 2), (8, 3), (8, 4), (8, 5), (8, 6), (8, 7), (9, 3), (9, 4), (9, 5), (9, 6), (9, 7), (10, 4), (10, 5), (10, 7), (10, 8), (30, 0), (31, 0), (32, 0), (33, 0), (34, 0), (35, 0), (36, 0), (43, 0), (44, 0), (47, 0), (48, 0)] m0 mh → (0 ≤ a1 ∧ a1 ≤ 700) → ((-2147483648) ≤ x2 ∧ x2 ≤ 2147483647) → (0 ≤ x3 ∧ x3 ≤ 701) → (0 ≤ mh 19 9 ∧ mh 19 9 ≤ 0) → (zR_BN mh) → (zR_K10 mh) → (701 - x3) * 1 + 0 < (k : Int) → zw (zu_ex (zt_T n) 12 51 [(7, a0), (0, a1), (0, x2), (0, x3)] [] mh) (fun v m => zi_I m ∧ zfr [(3, 5), (3, 6), (3, 7), (3, 8), (3, 9), (3, 10), (3, 11), (4, 1), (4, 2), (4, 3), (4, 4), (4, 5), (4, 6), (5, 6), (5, 7), (6, 3), (6, 5), (6, 9), (6, 10), (6, 11), (6, 12), (7, 1), (7, 2), (7, 3), (7, 4), (8, 1), (8, 2), (8, 3), (8, 4), (8, 5), (8, 6), (8, 7), (9, 3), (9, 4), (9, 5), (9, 6), (9, 7), (10, 4), (10, 5), (10, 7), (10, 8), (30, 0), (31, 0), (32, 0), (33, 0), (34, 0), (35, 0), (36, 0), (43, 0), (44, 0), (47, 0), (48, 0)] m0 m ∧ zR_BN m ∧ zR_K10 m ∧ ((-2147483648) ≤ v ∧ v ≤ 2147483647) ∧ (0 ≤ m 19 9 ∧ m 19 9 ≤ 99999))) := by
  intro k
  induction k with
  | zero => exact fun x2 x3 mh hImh hFmh hba1 hbx2 hbx3 hg3 hRBNmh hRK10mh hM => by exfalso; omega
  | succ k ih =>
    intro x2 x3 mh hImh hFmh hba1 hbx2 hbx3 hg3 hRBNmh hRK10mh hM
    refine zw_eq (zu_rega_at (zt_T n) (zm_12 n) (zdp_12 n) _ _ _ _ _ _ (zr_12_51 n _ _ a0 a1 x2 x3 mh)) ?_
    refine zw_ite (fun h1 => ?_) (fun h1 => ?_)
    · have r2 : 0 ≤ (mh 6 5) ∧ (mh 6 5) ≤ 99999 := zi_rd hImh zq_6 zb_4_5
      generalize hmm3 : zu_up mh 19 9 (mh 6 5) = m3
      have hIm3 := zi_up hmm3 hImh zq_19 zb_6_9 (by omega) (by omega)
      have hFm3 := zfr_up hmm3 hFmh zq_19 rfl
      have hRBNm3 := zR_BN_fr (zdis_fr (zfr_up hmm3 (zfr_rf [(6, 10)] _) zq_19 rfl) rfl) hRBNmh
      have hRK10m3 := zR_K10_fr (zdis_fr (zfr_up hmm3 (zfr_rf [(6, 10)] _) zq_19 rfl) rfl) hRK10mh
      have r4 : (-2147483648) ≤ (m3 19 9) ∧ (m3 19 9) ≤ 2147483647 := zi_rd hIm3 zq_19 zb_6_9
      have e5 : (m3 19 9) = (mh 6 5) := (zs_eq hmm3)
      exact zw_some ⟨hIm3, hFm3, hRBNm3, hRK10m3, ⟨by omega, by omega⟩, ⟨by omega, by omega⟩⟩
    · refine zw_bd (zw_mono (zk_18 n hImh zq_45) (fun v7 m6 hqm6 => ?_))
      obtain ⟨hIm6, hfm6, hvm6⟩ := hqm6
      have hFm6 := zfr_tr hFmh hfm6 rfl
      obtain ⟨hRTVm6, hvm6⟩ := hvm6
      have hRBNm6 := zR_BN_fr (zdis_fr hfm6 rfl) hRBNmh
      have hRK10m6 := zR_K10_fr (zdis_fr hfm6 rfl) hRK10mh
      have s8 := hRTVm6 45 zq_45
      have r9 : 0 ≤ (m6 45 4) ∧ (m6 45 4) ≤ 5 := zi_rd hIm6 zq_45 zb_9_4
      refine zw_ite (fun h10 => ?_) (fun h10 => ?_)
      · have r11 : 0 ≤ (m6 6 5) ∧ (m6 6 5) ≤ 99999 := zi_rd hIm6 zq_6 zb_4_5
        generalize hmm12 : zu_up m6 19 9 (m6 6 5) = m12
        have hIm12 := zi_up hmm12 hIm6 zq_19 zb_6_9 (by omega) (by omega)
        have hFm12 := zfr_up hmm12 hFm6 zq_19 rfl
        have hRBNm12 := zR_BN_fr (zdis_fr (zfr_up hmm12 (zfr_rf [(6, 10)] _) zq_19 rfl) rfl) hRBNm6
        have hRK10m12 := zR_K10_fr (zdis_fr (zfr_up hmm12 (zfr_rf [(6, 10)] _) zq_19 rfl) rfl) hRK10m6
        have hRTVm12 := zR_TV_fr (zdis_fr (zfr_up hmm12 (zfr_rf [(6, 10)] _) zq_19 rfl) rfl) hRTVm6
        have r13 : (-2147483648) ≤ (m12 19 9) ∧ (m12 19 9) ≤ 2147483647 := zi_rd hIm12 zq_19 zb_6_9
        have e14 : (m12 19 9) = (m6 6 5) := (zs_eq hmm12)
        exact zw_some ⟨hIm12, hFm12, hRBNm12, hRK10m12, ⟨by omega, by omega⟩, ⟨by omega, by omega⟩⟩
      · refine zw_bd (zw_mono (zk_258 n hIm6 hc0 ⟨by omega, by omega⟩ hRBNm6 hRK10m6) (fun v16 m15 hqm15 => ?_))
        obtain ⟨hIm15, hfm15, hvm15⟩ := hqm15
        have hFm15 := zfr_tr hFm6 hfm15 rfl
        obtain ⟨hRBNm15, hRK10m15, hvm15⟩ := hvm15
        refine zw_ite (fun h17 => ?_) (fun h17 => ?_)
        · have w18 := zu_w32_rg (x2 + 1)
          have w19 := zu_w32_id (z := x3 + 1) (by omega) (by omega)
          have r20 : (-2147483648) ≤ (m15 19 9) ∧ (m15 19 9) ≤ 2147483647 := zi_rd hIm15 zq_19 zb_6_9
          have e21 : (m15 19 9) = (mh 19 9) := (Eq.trans (zfr_ap hfm15 zq_19 rfl) (zfr_ap hfm6 zq_19 rfl))
          have hM : (701 - (zu_w32 (x3 + 1))) * 1 + 0 < (k : Int) := by omega
          exact ih (zu_w32 (x2 + 1)) (zu_w32 (x3 + 1)) m15 hIm15 hFm15 ⟨by omega, by omega⟩ ⟨by omega, by omega⟩ ⟨by omega, by omega⟩ ⟨by omega, by omega⟩ hRBNm15 hRK10m15 hM
        · have r22 : 0 ≤ (m15 6 5) ∧ (m15 6 5) ≤ 99999 := zi_rd hIm15 zq_6 zb_4_5
          generalize hmm23 : zu_up m15 19 9 (m15 6 5) = m23
          have hIm23 := zi_up hmm23 hIm15 zq_19 zb_6_9 (by omega) (by omega)
          have hFm23 := zfr_up hmm23 hFm15 zq_19 rfl
          have hRBNm23 := zR_BN_fr (zdis_fr (zfr_up hmm23 (zfr_rf [(6, 10)] _) zq_19 rfl) rfl) hRBNm15
          have hRK10m23 := zR_K10_fr (zdis_fr (zfr_up hmm23 (zfr_rf [(6, 10)] _) zq_19 rfl) rfl) hRK10m15
          have r24 : (-2147483648) ≤ (m23 19 9) ∧ (m23 19 9) ≤ 2147483647 := zi_rd hIm23 zq_19 zb_6_9
          have e25 : (m23 19 9) = (m15 6 5) := (zs_eq hmm23)
          exact zw_some ⟨hIm23, hFm23, hRBNm23, hRK10m23, ⟨by omega, by omega⟩, ⟨by omega, by omega⟩⟩
set_option maxHeartbeats 4000000 in
theorem zk_12 (n : Nat) {a0 a1 : Int} {m0 : zu_m} (hIm0 : zi_I m0) (hc0 : zcls a0 = 3) (ha1 : 0 ≤ a1 ∧ a1 ≤ 700)    (hRBNm0 : zR_BN m0) (hRK10m0 : zR_K10 m0) : zw (zu_call (zt_T n) 12 [(7, a0), (0, a1)] m0) (fun v m => zi_I m ∧ zfr [(3, 5), (3, 6), (3, 7), (3, 8), (3, 9), (3, 10), (3, 11), (4, 1), (4, 2), (4, 3), (4, 4), (4, 5), (4, 6), (5, 6), (5, 7), (6, 3), (6, 5), (6, 9), (6, 10), (6, 11), (6, 12), (7, 1), (7, 2), (7, 3), (7, 4), (8, 1), (8, 2), (8, 3), (8, 4), (8, 5), (8, 6), (8, 7), (9, 3), (9, 4), (9, 5), (9, 6), (9, 7), (10, 4), (10, 5), (10, 7), (10, 8), (30, 0), (31, 0), (32, 0), (33, 0), (34, 0), (35, 0), (36, 0), (43, 0), (44, 0), (47, 0), (48, 0)] m0 m ∧ zR_BN m ∧ zR_K10 m ∧ ((-2147483648) ≤ v ∧ v ≤ 2147483647) ∧ (0 ≤ m 19 9 ∧ m 19 9 ≤ 99999)) := by
  have hFm0 : zfr [(3, 5), (3, 6), (3, 7), (3, 8), (3, 9), (3, 10), (3, 11), (4, 1), (4, 2), (4, 3), (4, 4), (4, 5), (4, 6), (5, 6), (5, 7), (6, 3), (6, 5), (6, 9), (6, 10), (6, 11), (6, 12), (7, 1), (7, 2), (7, 3), (7, 4), (8, 1), (8, 2), (8, 3), (8, 4), (8, 5), (8, 6), (8, 7), (9, 3), (9, 4), (9, 5), (9, 6), (9, 7), (10, 4), (10, 5), (10, 7), (10, 8), (30, 0), (31, 0), (32, 0), (33, 0), (34, 0), (35, 0), (36, 0), (43, 0), (44, 0), (47, 0), (48, 0)] m0 m0 := zfr_rf _ _
  refine zw_eq (zu_call_at (zt_T n) (zm_12 n) (zdp_12 n) _ _ _ _ _ rfl (zr_12_0 n _ _ a0 a1 m0)) ?_
  refine zw_bd (zw_mono (zk_13 n hIm0 zq_6) (fun v27 m26 hqm26 => ?_))
  obtain ⟨hIm26, hfm26, hvm26⟩ := hqm26
  have hFm26 := zfr_tr hFm0 hfm26 rfl
  have hRBNm26 := zR_BN_fr (zdis_fr hfm26 rfl) hRBNm0
  have hRK10m26 := zR_K10_fr (zdis_fr hfm26 rfl) hRK10m0
  refine zw_bd (zw_mono (zk_16 n hIm26 zq_19) (fun v29 m28 hqm28 => ?_))
  obtain ⟨hIm28, hfm28, hvm28⟩ := hqm28
  have hFm28 := zfr_tr hFm26 hfm28 rfl
  have hRBNm28 := zR_BN_fr (zdis_fr hfm28 rfl) hRBNm26
  have hRK10m28 := zR_K10_fr (zdis_fr hfm28 rfl) hRK10m26
  generalize hmm30 : zu_up m28 a0 4 0 = m30
  have hIm30 := zi_up hmm30 hIm28 hc0 zb_3_4 (by omega) (by omega)
  have hFm30 := zfr_up hmm30 hFm28 hc0 rfl
  have hRBNm30 := zR_BN_fr (zdis_fr (zfr_up hmm30 (zfr_rf [(3, 5)] _) hc0 rfl) rfl) hRBNm28
  have hRK10m30 := zR_K10_fr (zdis_fr (zfr_up hmm30 (zfr_rf [(3, 5)] _) hc0 rfl) rfl) hRK10m28
  generalize hmm31 : zu_up m30 a0 5 0 = m31
  have hIm31 := zi_up hmm31 hIm30 hc0 zb_3_5 (by omega) (by omega)
  have hFm31 := zfr_up hmm31 hFm30 hc0 rfl
  have hRBNm31 := zR_BN_fr (zdis_fr (zfr_up hmm31 (zfr_rf [(3, 6)] _) hc0 rfl) rfl) hRBNm30
  have hRK10m31 := zR_K10_fr (zdis_fr (zfr_up hmm31 (zfr_rf [(3, 6)] _) hc0 rfl) rfl) hRK10m30
  refine zw_b (by omega) ?_
  generalize hmm32 : zu_up m31 a0 6 0 = m32
  have hIm32 := zi_up hmm32 hIm31 hc0 zb_3_6 (by omega) (by omega)
  have hFm32 := zfr_up hmm32 hFm31 hc0 rfl
  have hRBNm32 := zR_BN_fr (zdis_fr (zfr_up hmm32 (zfr_rf [(3, 7)] _) hc0 rfl) rfl) hRBNm31
  have hRK10m32 := zR_K10_fr (zdis_fr (zfr_up hmm32 (zfr_rf [(3, 7)] _) hc0 rfl) rfl) hRK10m31
  generalize hmm33 : zu_up m32 a0 9 0 = m33
  have hIm33 := zi_up hmm33 hIm32 hc0 zb_3_9 (by omega) (by omega)
  have hFm33 := zfr_up hmm33 hFm32 hc0 rfl
  have hRBNm33 := zR_BN_fr (zdis_fr (zfr_up hmm33 (zfr_rf [(3, 10)] _) hc0 rfl) rfl) hRBNm32
  have hRK10m33 := zR_K10_fr (zdis_fr (zfr_up hmm33 (zfr_rf [(3, 10)] _) hc0 rfl) rfl) hRK10m32
  generalize hmm34 : zu_up m33 a0 10 (-1) = m34
  have hIm34 := zi_up hmm34 hIm33 hc0 zb_3_10 (by omega) (by omega)
  have hFm34 := zfr_up hmm34 hFm33 hc0 rfl
  have hRBNm34 := zR_BN_fr (zdis_fr (zfr_up hmm34 (zfr_rf [(3, 11)] _) hc0 rfl) rfl) hRBNm33
  have hRK10m34 := zR_K10_fr (zdis_fr (zfr_up hmm34 (zfr_rf [(3, 11)] _) hc0 rfl) rfl) hRK10m33
  refine zw_bd (zw_mono (zk_17 n hIm34 zq_45 ⟨by omega, by omega⟩) (fun v36 m35 hqm35 => ?_))
  obtain ⟨hIm35, hfm35, hvm35⟩ := hqm35
  have hFm35 := zfr_tr hFm34 hfm35 rfl
  have hRBNm35 := zR_BN_fr (zdis_fr hfm35 rfl) hRBNm34
  have hRK10m35 := zR_K10_fr (zdis_fr hfm35 rfl) hRK10m34
  have r37 : (-2147483648) ≤ (m35 19 9) ∧ (m35 19 9) ≤ 2147483647 := zi_rd hIm35 zq_19 zb_6_9
  have e38 : (m35 19 9) = (m28 19 9) := (Eq.trans (zfr_ap hfm35 zq_19 rfl) (Eq.trans (zs_ne hmm34 (Or.inl (zc_ne zq_19 hc0 (by decide)))) (Eq.trans (zs_ne hmm33 (Or.inl (zc_ne zq_19 hc0 (by decide)))) (Eq.trans (zs_ne hmm32 (Or.inl (zc_ne zq_19 hc0 (by decide)))) (Eq.trans (zs_ne hmm31 (Or.inl (zc_ne zq_19 hc0 (by decide)))) (zs_ne hmm30 (Or.inl (zc_ne zq_19 hc0 (by decide)))))))))
  have hM : (701 - 0) * 1 + 0 < ((702 : Nat) : Int) := by omega
  exact (zl_12 n (m0 := m0) hc0 702) 0 0 m35 hIm35 hFm35 ⟨by omega, by omega⟩ ⟨by omega, by omega⟩ ⟨by omega, by omega⟩ ⟨by omega, by omega⟩ hRBNm35 hRK10m35 hM
set_option maxHeartbeats 4000000 in
theorem zl_31 (n : Nat) {a0 : Int} {m0 : zu_m} (hc0 : zcls a0 = 28)   : ∀ k : Nat, (∀ (x1 : Int) (mh : zu_m), zi_I mh → zfr [(28, 13), (28, 14), (28, 15), (28, 16), (28, 17), (28, 54), (28, 63), (28, 64), (28, 65), (28, 66), (28, 67), (28, 68), (28, 69), (28, 70), (28, 78), (28, 79), (28, 82), (28, 84), (103, 0), (104, 0), (106, 0), (107, 0), (108, 0), (109, 0), (110, 0), (111, 0), (112, 0), (113, 0), (114, 0), (115, 0), (116, 0), (117, 0), (118, 0), (119, 0), (122, 0), (123, 0), (124, 0), (125, 0), (126, 0), (127, 0), (128, 0), (129, 0), (130, 0), (131, 0)] m0 mh → (0 ≤ x1 ∧ x1 ≤ 4) → (zR_KN mh) → (4 - x1) * 1 + 0 < (k : Int) → zw (zu_ex (zt_T n) 31 126 [(40, a0), (0, x1)] [] mh) (fun v m => zi_I m ∧ zfr [(28, 13), (28, 14), (28, 15), (28, 16), (28, 17), (28, 54), (28, 63), (28, 64), (28, 65), (28, 66), (28, 67), (28, 68), (28, 69), (28, 70), (28, 78), (28, 79), (28, 82), (28, 84), (103, 0), (104, 0), (106, 0), (107, 0), (108, 0), (109, 0), (110, 0), (111, 0), (112, 0), (113, 0), (114, 0), (115, 0), (116, 0), (117, 0), (118, 0), (119, 0), (122, 0), (123, 0), (124, 0), (125, 0), (126, 0), (127, 0), (128, 0), (129, 0), (130, 0), (131, 0)] m0 m ∧ zR_KN m ∧ True)) := by
  intro k
  induction k with
  | zero => exact fun x1 mh hImh hFmh hbx1 hRKNmh hM => by exfalso; omega
  | succ k ih =>
    intro x1 mh hImh hFmh hbx1 hRKNmh hM
    refine zw_eq (zu_rega_at (zt_T n) (zm_31 n) (zdp_31 n) _ _ _ _ _ _ (zr_31_126 n _ _ a0 x1 mh)) ?_
    refine zw_ite (fun h1 => ?_) (fun h1 => ?_)
    · refine zw_bd (zw_mono (zk_32_115 n hImh zq_206 ⟨by omega, by omega⟩) (fun v3 m2 hqm2 => ?_))
      obtain ⟨hIm2, hfm2, hvm2⟩ := hqm2
      have hFm2 := zfr_tr hFmh hfm2 rfl
      have hRKNm2 := zR_KN_fr (zdis_fr hfm2 rfl) hRKNmh
      refine zw_bd (zw_mono (zk_32_116 n hIm2 zq_207 ⟨by omega, by omega⟩) (fun v5 m4 hqm4 => ?_))
      obtain ⟨hIm4, hfm4, hvm4⟩ := hqm4
      have hFm4 := zfr_tr hFm2 hfm4 rfl
      have hRKNm4 := zR_KN_fr (zdis_fr hfm4 rfl) hRKNm2
      refine zw_bd (zw_mono (zk_32_117 n hIm4 zq_208 ⟨by omega, by omega⟩) (fun v7 m6 hqm6 => ?_))
      obtain ⟨hIm6, hfm6, hvm6⟩ := hqm6
      have hFm6 := zfr_tr hFm4 hfm6 rfl
      refine zw_bd (zw_mono (zk_32_118 n hIm6 zq_209 ⟨by omega, by omega⟩) (fun v9 m8 hqm8 => ?_))
      obtain ⟨hIm8, hfm8, hvm8⟩ := hqm8
      have hFm8 := zfr_tr hFm6 hfm8 rfl
      refine zw_bd (zw_mono (zk_32_119 n hIm8 zq_210 ⟨by omega, by omega⟩) (fun v11 m10 hqm10 => ?_))
      obtain ⟨hIm10, hfm10, hvm10⟩ := hqm10
      have hFm10 := zfr_tr hFm8 hfm10 rfl
      have hRKNm10 := zKN_cp hvm6.2 hfm6 hvm8.2 hfm8 hvm10.2 hfm10 hRKNm4
      refine zw_bd (zw_mono (zk_33 n hIm10 hc0 hRKNm10) (fun v13 m12 hqm12 => ?_))
      obtain ⟨hIm12, hfm12, hvm12⟩ := hqm12
      have hFm12 := zfr_tr hFm10 hfm12 rfl
      obtain ⟨hRKNm12, hvm12⟩ := hvm12
      exact zw_some ⟨hIm12, hFm12, hRKNm12, trivial⟩
    · have w14 := zu_w32_id (z := 4 + x1) (by omega) (by omega)
      have b15 : 0 ≤ (zu_w32 (4 + x1)) ∧ (zu_w32 (4 + x1)) < 8 := by omega
      refine zw_if b15 ?_
      have r16 : 0 ≤ (mh 205 (zu_w32 (4 + x1))) ∧ (mh 205 (zu_w32 (4 + x1))) ≤ 1 := zi_rd hImh zq_205 (zb_114 _)
      refine zw_b (by omega) ?_
      have b17 : 0 ≤ x1 ∧ x1 < 8 := by omega
      refine zw_if b17 ?_
      generalize hmm18 : zu_up mh 205 x1 (mh 205 (zu_w32 (4 + x1))) = m18
      have hIm18 := zi_up hmm18 hImh zq_205 (zb_114 _) (by omega) (by omega)
      have hFm18 := zfr_up hmm18 hFmh zq_205 rfl
      have hRKNm18 := zR_KN_fr (zdis_fr (zfr_up hmm18 (zfr_rf [(114, 0)] _) zq_205 rfl) rfl) hRKNmh
      have w19 := zu_w32_id (z := x1 + 1) (by omega) (by omega)
      have hM : (4 - (zu_w32 (x1 + 1))) * 1 + 0 < (k : Int) := by omega
      exact ih (zu_w32 (x1 + 1)) m18 hIm18 hFm18 ⟨by omega, by omega⟩ hRKNm18 hM
set_option maxHeartbeats 4000000 in
theorem zk_31 (n : Nat) {a0 : Int} {m0 : zu_m} (hIm0 : zi_I m0) (hc0 : zcls a0 = 28)     (hRKNm0 : zR_KN m0) : zw (zu_call (zt_T n) 31 [(40, a0)] m0) (fun v m => zi_I m ∧ zfr [(28, 13), (28, 14), (28, 15), (28, 16), (28, 17), (28, 54), (28, 63), (28, 64), (28, 65), (28, 66), (28, 67), (28, 68), (28, 69), (28, 70), (28, 78), (28, 79), (28, 82), (28, 84), (103, 0), (104, 0), (106, 0), (107, 0), (108, 0), (109, 0), (110, 0), (111, 0), (112, 0), (113, 0), (114, 0), (115, 0), (116, 0), (117, 0), (118, 0), (119, 0), (122, 0), (123, 0), (124, 0), (125, 0), (126, 0), (127, 0), (128, 0), (129, 0), (130, 0), (131, 0)] m0 m ∧ zR_KN m ∧ True) := by
  have hFm0 : zfr [(28, 13), (28, 14), (28, 15), (28, 16), (28, 17), (28, 54), (28, 63), (28, 64), (28, 65), (28, 66), (28, 67), (28, 68), (28, 69), (28, 70), (28, 78), (28, 79), (28, 82), (28, 84), (103, 0), (104, 0), (106, 0), (107, 0), (108, 0), (109, 0), (110, 0), (111, 0), (112, 0), (113, 0), (114, 0), (115, 0), (116, 0), (117, 0), (118, 0), (119, 0), (122, 0), (123, 0), (124, 0), (125, 0), (126, 0), (127, 0), (128, 0), (129, 0), (130, 0), (131, 0)] m0 m0 := zfr_rf _ _
  refine zw_eq (zu_call_at (zt_T n) (zm_31 n) (zdp_31 n) _ _ _ _ _ rfl (zr_31_0 n _ _ a0 m0)) ?_
  have r20 : 1 ≤ (m0 a0 17) ∧ (m0 a0 17) ≤ 8 := zi_rd hIm0 hc0 zb_28_17
  generalize hmm21 : zu_up m0 a0 12 (m0 a0 17) = m21
  have hIm21 := zi_up hmm21 hIm0 hc0 zb_28_12 (by omega) (by omega)
  have hFm21 := zfr_up hmm21 hFm0 hc0 rfl
  have hRKNm21 := zR_KN_fr (zdis_fr (zfr_up hmm21 (zfr_rf [(28, 13)] _) hc0 rfl) rfl) hRKNm0
  have r22 : 1 ≤ (m21 a0 18) ∧ (m21 a0 18) ≤ 6 := zi_rd hIm21 hc0 zb_28_18
  generalize hmm23 : zu_up m21 a0 13 (m21 a0 18) = m23
  have hIm23 := zi_up hmm23 hIm21 hc0 zb_28_13 (by omega) (by omega)
  have hFm23 := zfr_up hmm23 hFm21 hc0 rfl
  have hRKNm23 := zR_KN_fr (zdis_fr (zfr_up hmm23 (zfr_rf [(28, 14)] _) hc0 rfl) rfl) hRKNm21
  have r24 : 0 ≤ (m23 a0 19) ∧ (m23 a0 19) ≤ 12 := zi_rd hIm23 hc0 zb_28_19
  generalize hmm25 : zu_up m23 a0 14 (m23 a0 19) = m25
  have hIm25 := zi_up hmm25 hIm23 hc0 zb_28_14 (by omega) (by omega)
  have hFm25 := zfr_up hmm25 hFm23 hc0 rfl
  have hRKNm25 := zR_KN_fr (zdis_fr (zfr_up hmm25 (zfr_rf [(28, 15)] _) hc0 rfl) rfl) hRKNm23
  have r26 : 0 ≤ (m25 a0 20) ∧ (m25 a0 20) ≤ 4 := zi_rd hIm25 hc0 zb_28_20
  generalize hmm27 : zu_up m25 a0 15 (m25 a0 20) = m27
  have hIm27 := zi_up hmm27 hIm25 hc0 zb_28_15 (by omega) (by omega)
  have hFm27 := zfr_up hmm27 hFm25 hc0 rfl
  have hRKNm27 := zR_KN_fr (zdis_fr (zfr_up hmm27 (zfr_rf [(28, 16)] _) hc0 rfl) rfl) hRKNm25
  have r28 : 0 ≤ (m27 a0 21) ∧ (m27 a0 21) ≤ 64 := zi_rd hIm27 hc0 zb_28_21
  generalize hmm29 : zu_up m27 a0 16 (m27 a0 21) = m29
  have hIm29 := zi_up hmm29 hIm27 hc0 zb_28_16 (by omega) (by omega)
  have hFm29 := zfr_up hmm29 hFm27 hc0 rfl
  have hRKNm29 := zR_KN_fr (zdis_fr (zfr_up hmm29 (zfr_rf [(28, 17)] _) hc0 rfl) rfl) hRKNm27
  refine zw_bd (zw_mono (zk_32_103 n hIm29 zq_194 ⟨by omega, by omega⟩) (fun v31 m30 hqm30 => ?_))
  obtain ⟨hIm30, hfm30, hvm30⟩ := hqm30
  have hFm30 := zfr_tr hFm29 hfm30 rfl
  have hRKNm30 := zR_KN_fr (zdis_fr hfm30 rfl) hRKNm29
  refine zw_bd (zw_mono (zk_32_104 n hIm30 zq_195 ⟨by omega, by omega⟩) (fun v33 m32 hqm32 => ?_))
  obtain ⟨hIm32, hfm32, hvm32⟩ := hqm32
  have hFm32 := zfr_tr hFm30 hfm32 rfl
  have hRKNm32 := zR_KN_fr (zdis_fr hfm32 rfl) hRKNm30
  refine zw_bd (zw_mono (zk_32_106 n hIm32 zq_197 ⟨by omega, by omega⟩) (fun v35 m34 hqm34 => ?_))
  obtain ⟨hIm34, hfm34, hvm34⟩ := hqm34
  have hFm34 := zfr_tr hFm32 hfm34 rfl
  have hRKNm34 := zR_KN_fr (zdis_fr hfm34 rfl) hRKNm32
  refine zw_bd (zw_mono (zk_32_107 n hIm34 zq_198 ⟨by omega, by omega⟩) (fun v37 m36 hqm36 => ?_))
  obtain ⟨hIm36, hfm36, hvm36⟩ := hqm36
  have hFm36 := zfr_tr hFm34 hfm36 rfl
  have hRKNm36 := zR_KN_fr (zdis_fr hfm36 rfl) hRKNm34
  refine zw_bd (zw_mono (zk_32_108 n hIm36 zq_199 ⟨by omega, by omega⟩) (fun v39 m38 hqm38 => ?_))
  obtain ⟨hIm38, hfm38, hvm38⟩ := hqm38
  have hFm38 := zfr_tr hFm36 hfm38 rfl
  have hRKNm38 := zR_KN_fr (zdis_fr hfm38 rfl) hRKNm36
  refine zw_bd (zw_mono (zk_32_109 n hIm38 zq_200 ⟨by omega, by omega⟩) (fun v41 m40 hqm40 => ?_))
  obtain ⟨hIm40, hfm40, hvm40⟩ := hqm40
  have hFm40 := zfr_tr hFm38 hfm40 rfl
  have hRKNm40 := zR_KN_fr (zdis_fr hfm40 rfl) hRKNm38
  refine zw_bd (zw_mono (zk_32_110 n hIm40 zq_201 ⟨by omega, by omega⟩) (fun v43 m42 hqm42 => ?_))
  obtain ⟨hIm42, hfm42, hvm42⟩ := hqm42
  have hFm42 := zfr_tr hFm40 hfm42 rfl
  have hRKNm42 := zR_KN_fr (zdis_fr hfm42 rfl) hRKNm40
  refine zw_bd (zw_mono (zk_32_111 n hIm42 zq_202 ⟨by omega, by omega⟩) (fun v45 m44 hqm44 => ?_))
  obtain ⟨hIm44, hfm44, hvm44⟩ := hqm44
  have hFm44 := zfr_tr hFm42 hfm44 rfl
  have hRKNm44 := zR_KN_fr (zdis_fr hfm44 rfl) hRKNm42
  refine zw_bd (zw_mono (zk_32_112 n hIm44 zq_203 ⟨by omega, by omega⟩) (fun v47 m46 hqm46 => ?_))
  obtain ⟨hIm46, hfm46, hvm46⟩ := hqm46
  have hFm46 := zfr_tr hFm44 hfm46 rfl
  have hRKNm46 := zR_KN_fr (zdis_fr hfm46 rfl) hRKNm44
  refine zw_bd (zw_mono (zk_32_113 n hIm46 zq_204 ⟨by omega, by omega⟩) (fun v49 m48 hqm48 => ?_))
  obtain ⟨hIm48, hfm48, hvm48⟩ := hqm48
  have hFm48 := zfr_tr hFm46 hfm48 rfl
  have hRKNm48 := zR_KN_fr (zdis_fr hfm48 rfl) hRKNm46
  have hM : (4 - 0) * 1 + 0 < ((5 : Nat) : Int) := by omega
  exact (zl_31 n (m0 := m0) hc0 5) 0 m48 hIm48 hFm48 ⟨by omega, by omega⟩ hRKNm48 hM
set_option maxHeartbeats 4000000 in
theorem zk_62 (n : Nat) {a0 a1 a2 : Int} {m0 : zu_m} (hIm0 : zi_I m0) (hc0 : zcls a0 = 2) (ha1 : (-2147483648) ≤ a1 ∧ a1 ≤ 2147483647) (ha2 : (-2147483648) ≤ a2 ∧ a2 ≤ 2147483647)    (hRK54m0 : zR_K54 m0) : zw (zu_call (zt_T n) 62 [(5, a0), (0, a1), (0, a2)] m0) (fun v m => zi_I m ∧ zfr [(24, 16), (25, 3), (25, 5), (25, 9), (25, 10), (25, 11), (25, 12), (26, 1), (26, 2), (26, 3), (26, 4), (27, 1), (27, 2), (27, 3), (27, 4), (27, 5), (27, 6), (27, 7), (27, 8), (56, 0), (59, 1), (59, 2), (59, 3), (59, 4), (59, 5), (59, 6), (59, 7), (97, 0), (98, 0)] m0 m ∧ zR_K54 m ∧ ((-2147483648) ≤ v ∧ v ≤ 1000000)) := by
  have hFm0 : zfr [(24, 16), (25, 3), (25, 5), (25, 9), (25, 10), (25, 11), (25, 12), (26, 1), (26, 2), (26, 3), (26, 4), (27, 1), (27, 2), (27, 3), (27, 4), (27, 5), (27, 6), (27, 7), (27, 8), (56, 0), (59, 1), (59, 2), (59, 3), (59, 4), (59, 5), (59, 6), (59, 7), (97, 0), (98, 0)] m0 m0 := zfr_rf _ _
  refine zw_eq (zu_call_at (zt_T n) (zm_62 n) (zdp_62 n) _ _ _ _ _ rfl (zr_62_0 n _ _ a0 a1 a2 m0)) ?_
  refine zw_bd (zw_eq (zu_call_at (zt_T n) (zm_53 n) (zdp_53 n) _ _ _ _ _ rfl (zr_53_0 n _ _ a1 m0)) ?_)
  refine zw_ite (fun h1 => ?_) (fun h1 => ?_)
  · refine zw_b (by omega) ?_
    refine zw_some ?_
    refine zw_ite (fun h2 => ?_) (fun h2 => ?_)
    · exact zw_some ⟨hIm0, hFm0, hRK54m0, ⟨by omega, by omega⟩⟩
    · exfalso; omega
  · refine zw_ite (fun h3 => ?_) (fun h3 => ?_)
    · refine zw_b (by omega) ?_
      refine zw_some ?_
      refine zw_ite (fun h4 => ?_) (fun h4 => ?_)
      · exact zw_some ⟨hIm0, hFm0, hRK54m0, ⟨by omega, by omega⟩⟩
      · exfalso; omega
    · refine zw_b (by omega) ?_
      refine zw_some ?_
      refine zw_ite (fun h5 => ?_) (fun h5 => ?_)
      · exfalso; omega
      · refine zw_ite (fun h6 => ?_) (fun h6 => ?_)
        · exact zw_some ⟨hIm0, hFm0, hRK54m0, ⟨by omega, by omega⟩⟩
        · refine zw_ite (fun h7 => ?_) (fun h7 => ?_)
          · exact zw_some ⟨hIm0, hFm0, hRK54m0, ⟨by omega, by omega⟩⟩
          · have r8 : 0 ≤ (m0 89 4) ∧ (m0 89 4) ≤ 4 := zi_rd hIm0 zq_89 zb_16_4
            refine zw_ite (fun h9 => ?_) (fun h9 => ?_)
            · refine zw_bd (zw_mono (zk_298 n hIm0 zq_153 ⟨by omega, by omega⟩ ⟨by omega, by omega⟩ hRK54m0) (fun v11 m10 hqm10 => ?_))
              obtain ⟨hIm10, hfm10, hvm10⟩ := hqm10
              have hFm10 := zfr_tr hFm0 hfm10 rfl
              obtain ⟨hRK54m10, hvm10⟩ := hvm10
              refine zw_ite (fun h12 => ?_) (fun h12 => ?_)
              · exact zw_some ⟨hIm10, hFm10, hRK54m10, ⟨by omega, by omega⟩⟩
              · exact zw_some ⟨hIm10, hFm10, hRK54m10, ⟨by omega, by omega⟩⟩
            · exact zw_some ⟨hIm0, hFm0, hRK54m0, ⟨by omega, by omega⟩⟩
set_option maxHeartbeats 4000000 in
theorem zk_63 (n : Nat) {a0 a1 a2 : Int} {m0 : zu_m} (hIm0 : zi_I m0) (hc0 : zcls a0 = 2) (ha1 : (-2147483648) ≤ a1 ∧ a1 ≤ 2147483647) (ha2 : (-2147483648) ≤ a2 ∧ a2 ≤ 2147483647)    (hRK54m0 : zR_K54 m0) : zw (zu_call (zt_T n) 63 [(5, a0), (0, a1), (0, a2)] m0) (fun v m => zi_I m ∧ zfr [(25, 3), (25, 5), (25, 9), (25, 10), (25, 11), (25, 12), (26, 1), (26, 2), (26, 3), (26, 4), (27, 1), (27, 2), (27, 3), (27, 4), (27, 5), (27, 6), (27, 7), (27, 8), (56, 0), (59, 1), (59, 2), (59, 3), (59, 4), (59, 5), (59, 6), (59, 7), (97, 0), (98, 0)] m0 m ∧ zR_K54 m ∧ ((-2147483648) ≤ v ∧ v ≤ 2147483647)) := by
  have hFm0 : zfr [(25, 3), (25, 5), (25, 9), (25, 10), (25, 11), (25, 12), (26, 1), (26, 2), (26, 3), (26, 4), (27, 1), (27, 2), (27, 3), (27, 4), (27, 5), (27, 6), (27, 7), (27, 8), (56, 0), (59, 1), (59, 2), (59, 3), (59, 4), (59, 5), (59, 6), (59, 7), (97, 0), (98, 0)] m0 m0 := zfr_rf _ _
  refine zw_eq (zu_call_at (zt_T n) (zm_63 n) (zdp_63 n) _ _ _ _ _ rfl (zr_63_0 n _ _ a0 a1 a2 m0)) ?_
  refine zw_ite (fun h1 => ?_) (fun h1 => ?_)
  · exact zw_some ⟨hIm0, hFm0, hRK54m0, ⟨by omega, by omega⟩⟩
  · refine zw_ite (fun h2 => ?_) (fun h2 => ?_)
    · exact zw_some ⟨hIm0, hFm0, hRK54m0, ⟨by omega, by omega⟩⟩
    · refine zw_bd (zw_eq (zu_call_at (zt_T n) (zm_53 n) (zdp_53 n) _ _ _ _ _ rfl (zr_53_0 n _ _ a2 m0)) ?_)
      refine zw_ite (fun h3 => ?_) (fun h3 => ?_)
      · refine zw_b (by omega) ?_
        refine zw_some ?_
        refine zw_ite (fun h4 => ?_) (fun h4 => ?_)
        · exfalso; omega
        · exact zw_some ⟨hIm0, hFm0, hRK54m0, ⟨by omega, by omega⟩⟩
      · refine zw_ite (fun h5 => ?_) (fun h5 => ?_)
        · refine zw_b (by omega) ?_
          refine zw_some ?_
          refine zw_ite (fun h6 => ?_) (fun h6 => ?_)
          · exfalso; omega
          · exact zw_some ⟨hIm0, hFm0, hRK54m0, ⟨by omega, by omega⟩⟩
        · refine zw_b (by omega) ?_
          refine zw_some ?_
          refine zw_ite (fun h7 => ?_) (fun h7 => ?_)
          · refine zw_bd (zw_mono (zk_299 n hIm0 zq_153 ⟨by omega, by omega⟩ ⟨by omega, by omega⟩ hRK54m0) (fun v9 m8 hqm8 => ?_))
            obtain ⟨hIm8, hfm8, hvm8⟩ := hqm8
            have hFm8 := zfr_tr hFm0 hfm8 rfl
            obtain ⟨hRK54m8, hvm8⟩ := hvm8
            exact zw_some ⟨hIm8, hFm8, hRK54m8, ⟨by omega, by omega⟩⟩
          · exfalso; omega
set_option maxHeartbeats 4000000 in
theorem zk_70 (n : Nat) {a0 a1 : Int} {m0 : zu_m} (hIm0 : zi_I m0) (hc0 : zcls a0 = 2) (ha1 : (-2147483648) ≤ a1 ∧ a1 ≤ 2147483647)    (hRK54m0 : zR_K54 m0) : zw (zu_call (zt_T n) 70 [(5, a0), (0, a1)] m0) (fun v m => zi_I m ∧ zfr [(56, 0), (59, 1), (59, 2), (59, 3), (59, 4), (59, 5), (59, 6), (59, 7)] m0 m ∧ zR_K54 m ∧ ((-8) ≤ v ∧ v ≤ 15)) := by
  have hFm0 : zfr [(56, 0), (59, 1), (59, 2), (59, 3), (59, 4), (59, 5), (59, 6), (59, 7)] m0 m0 := zfr_rf _ _
  refine zw_eq (zu_call_at (zt_T n) (zm_70 n) (zdp_70 n) _ _ _ _ _ rfl (zr_70_0 n _ _ a0 a1 m0)) ?_
  refine zw_ite (fun h1 => ?_) (fun h1 => ?_)
  · exact zw_some ⟨hIm0, hFm0, hRK54m0, ⟨by omega, by omega⟩⟩
  · refine zw_ite (fun h2 => ?_) (fun h2 => ?_)
    · refine zw_bd (zw_mono (zk_241 n hIm0 zq_89 ⟨by omega, by omega⟩ hRK54m0) (fun v4 m3 hqm3 => ?_))
      obtain ⟨hIm3, hfm3, hvm3⟩ := hqm3
      have hFm3 := zfr_tr hFm0 hfm3 rfl
      obtain ⟨hRK54m3, hvm3⟩ := hvm3
      exact zw_some ⟨hIm3, hFm3, hRK54m3, ⟨by omega, by omega⟩⟩
    · exact zw_some ⟨hIm0, hFm0, hRK54m0, ⟨by omega, by omega⟩⟩
set_option maxHeartbeats 4000000 in
theorem zk_76 (n : Nat) {a0 a1 a2 a3 a4 : Int} {m0 : zu_m} (hIm0 : zi_I m0) (hc0 : zcls a0 = 2) (ha1 : (-2147483648) ≤ a1 ∧ a1 ≤ 2147483647) (ha2 : (-2147483648) ≤ a2 ∧ a2 ≤ 2147483647) (ha3 : (-2147483648) ≤ a3 ∧ a3 ≤ 2147483647) (ha4 : (-2147483648) ≤ a4 ∧ a4 ≤ 2147483647)    (hRK54m0 : zR_K54 m0) : zw (zu_call (zt_T n) 76 [(5, a0), (0, a1), (0, a2), (0, a3), (0, a4)] m0) (fun v m => zi_I m ∧ zfr [(25, 3), (25, 5), (25, 9), (25, 10), (25, 11), (25, 12), (26, 1), (26, 2), (26, 3), (26, 4), (27, 1), (27, 2), (27, 3), (27, 4), (27, 5), (27, 6), (27, 7), (27, 8), (56, 0), (59, 1), (59, 2), (59, 3), (59, 4), (59, 5), (59, 6), (59, 7), (97, 0), (98, 0)] m0 m ∧ zR_K54 m ∧ ((-2147483648) ≤ v ∧ v ≤ 2147483647)) := by
  have hFm0 : zfr [(25, 3), (25, 5), (25, 9), (25, 10), (25, 11), (25, 12), (26, 1), (26, 2), (26, 3), (26, 4), (27, 1), (27, 2), (27, 3), (27, 4), (27, 5), (27, 6), (27, 7), (27, 8), (56, 0), (59, 1), (59, 2), (59, 3), (59, 4), (59, 5), (59, 6), (59, 7), (97, 0), (98, 0)] m0 m0 := zfr_rf _ _
  refine zw_eq (zu_call_at (zt_T n) (zm_76 n) (zdp_76 n) _ _ _ _ _ rfl (zr_76_0 n _ _ a0 a1 a2 a3 a4 m0)) ?_
  refine zw_ite (fun h1 => ?_) (fun h1 => ?_)
  · exact zw_some ⟨hIm0, hFm0, hRK54m0, ⟨by omega, by omega⟩⟩
  · refine zw_bd (zw_eq (zu_call_at (zt_T n) (zm_53 n) (zdp_53 n) _ _ _ _ _ rfl (zr_53_0 n _ _ a2 m0)) ?_)
    refine zw_ite (fun h2 => ?_) (fun h2 => ?_)
    · refine zw_b (by omega) ?_
      refine zw_some ?_
      refine zw_ite (fun h3 => ?_) (fun h3 => ?_)
      · exact zw_some ⟨hIm0, hFm0, hRK54m0, ⟨by omega, by omega⟩⟩
      · exfalso; omega
    · refine zw_ite (fun h4 => ?_) (fun h4 => ?_)
      · refine zw_b (by omega) ?_
        refine zw_some ?_
        refine zw_ite (fun h5 => ?_) (fun h5 => ?_)
        · exact zw_some ⟨hIm0, hFm0, hRK54m0, ⟨by omega, by omega⟩⟩
        · exfalso; omega
      · refine zw_b (by omega) ?_
        refine zw_some ?_
        refine zw_ite (fun h6 => ?_) (fun h6 => ?_)
        · exfalso; omega
        · refine zw_bd (zw_eq (zu_call_at (zt_T n) (zm_211 n) (zdp_211 n) _ _ _ _ _ rfl (zr_211_0 n _ _ 89 a3 m0)) ?_)
          refine zw_ite (fun h7 => ?_) (fun h7 => ?_)
          · refine zw_b (by omega) ?_
            refine zw_some ?_
            refine zw_ite (fun h8 => ?_) (fun h8 => ?_)
            · exact zw_some ⟨hIm0, hFm0, hRK54m0, ⟨by omega, by omega⟩⟩
            · exfalso; omega
          · have r9 : 0 ≤ (m0 89 4) ∧ (m0 89 4) ≤ 4 := zi_rd hIm0 zq_89 zb_16_4
            refine zw_ite (fun h10 => ?_) (fun h10 => ?_)
            · refine zw_b (by omega) ?_
              refine zw_some ?_
              refine zw_ite (fun h11 => ?_) (fun h11 => ?_)
              · exact zw_some ⟨hIm0, hFm0, hRK54m0, ⟨by omega, by omega⟩⟩
              · exfalso; omega
            · refine zw_b (by omega) ?_
              refine zw_some ?_
              refine zw_ite (fun h12 => ?_) (fun h12 => ?_)
              · exfalso; omega
              · refine zw_ite (fun h13 => ?_) (fun h13 => ?_)
                · exact zw_some ⟨hIm0, hFm0, hRK54m0, ⟨by omega, by omega⟩⟩
                · refine zw_ite (fun h14 => ?_) (fun h14 => ?_)
                  · refine zw_bd (zw_mono (zk_303 n hIm0 zq_153 ⟨by omega, by omega⟩ ⟨by omega, by omega⟩ ⟨by omega, by omega⟩ ⟨by omega, by omega⟩ hRK54m0) (fun v16 m15 hqm15 => ?_))
                    obtain ⟨hIm15, hfm15, hvm15⟩ := hqm15
                    have hFm15 := zfr_tr hFm0 hfm15 rfl
                    obtain ⟨hRK54m15, hvm15⟩ := hvm15
                    exact zw_some ⟨hIm15, hFm15, hRK54m15, ⟨by omega, by omega⟩⟩
                  · exact zw_some ⟨hIm0, hFm0, hRK54m0, ⟨by omega, by omega⟩⟩
set_option maxHeartbeats 4000000 in
theorem zk_77 (n : Nat) {a0 a1 a2 a3 : Int} {m0 : zu_m} (hIm0 : zi_I m0) (hc0 : zcls a0 = 2) (ha1 : (-2147483648) ≤ a1 ∧ a1 ≤ 2147483647) (ha2 : (-2147483648) ≤ a2 ∧ a2 ≤ 2147483647) (ha3 : (-2147483648) ≤ a3 ∧ a3 ≤ 2147483647)    (hRK54m0 : zR_K54 m0) : zw (zu_call (zt_T n) 77 [(5, a0), (0, a1), (0, a2), (0, a3)] m0) (fun v m => zi_I m ∧ zfr [(25, 3), (25, 5), (25, 9), (25, 10), (25, 11), (25, 12), (26, 1), (26, 2), (26, 3), (26, 4), (27, 1), (27, 2), (27, 3), (27, 4), (27, 5), (27, 6), (27, 7), (27, 8), (56, 0), (59, 1), (59, 2), (59, 3), (59, 4), (59, 5), (59, 6), (59, 7), (97, 0), (98, 0)] m0 m ∧ zR_K54 m ∧ ((-2147483648) ≤ v ∧ v ≤ 2147483647)) := by
  have hFm0 : zfr [(25, 3), (25, 5), (25, 9), (25, 10), (25, 11), (25, 12), (26, 1), (26, 2), (26, 3), (26, 4), (27, 1), (27, 2), (27, 3), (27, 4), (27, 5), (27, 6), (27, 7), (27, 8), (56, 0), (59, 1), (59, 2), (59, 3), (59, 4), (59, 5), (59, 6), (59, 7), (97, 0), (98, 0)] m0 m0 := zfr_rf _ _
  refine zw_eq (zu_call_at (zt_T n) (zm_77 n) (zdp_77 n) _ _ _ _ _ rfl (zr_77_0 n _ _ a0 a1 a2 a3 m0)) ?_
  refine zw_ite (fun h1 => ?_) (fun h1 => ?_)
  · exact zw_some ⟨hIm0, hFm0, hRK54m0, ⟨by omega, by omega⟩⟩
  · refine zw_ite (fun h2 => ?_) (fun h2 => ?_)
    · exact zw_some ⟨hIm0, hFm0, hRK54m0, ⟨by omega, by omega⟩⟩
    · refine zw_ite (fun h3 => ?_) (fun h3 => ?_)
      · exact zw_some ⟨hIm0, hFm0, hRK54m0, ⟨by omega, by omega⟩⟩
      · refine zw_ite (fun h4 => ?_) (fun h4 => ?_)
        · refine zw_ite (fun h5 => ?_) (fun h5 => ?_)
          · refine zw_ite (fun h6 => ?_) (fun h6 => ?_)
            · refine zw_ite (fun h7 => ?_) (fun h7 => ?_)
              · exact zw_some ⟨hIm0, hFm0, hRK54m0, ⟨by omega, by omega⟩⟩
              · exfalso; omega
            · refine zw_ite (fun h8 => ?_) (fun h8 => ?_)
              · exfalso; omega
              · refine zw_bd (zw_mono (zk_304 n hIm0 zq_153 ⟨by omega, by omega⟩ ⟨by omega, by omega⟩ ⟨by omega, by omega⟩ hRK54m0) (fun v10 m9 hqm9 => ?_))
                obtain ⟨hIm9, hfm9, hvm9⟩ := hqm9
                have hFm9 := zfr_tr hFm0 hfm9 rfl
                obtain ⟨hRK54m9, hvm9⟩ := hvm9
                exact zw_some ⟨hIm9, hFm9, hRK54m9, ⟨by omega, by omega⟩⟩
          · refine zw_bd (zw_eq (zu_call_at (zt_T n) (zm_211 n) (zdp_211 n) _ _ _ _ _ rfl (zr_211_0 n _ _ 89 a2 m0)) ?_)
            refine zw_ite (fun h11 => ?_) (fun h11 => ?_)
            · refine zw_b (by omega) ?_
              refine zw_some ?_
              refine zw_ite (fun h12 => ?_) (fun h12 => ?_)
              · exact zw_some ⟨hIm0, hFm0, hRK54m0, ⟨by omega, by omega⟩⟩
              · exfalso; omega
            · have r13 : 0 ≤ (m0 89 4) ∧ (m0 89 4) ≤ 4 := zi_rd hIm0 zq_89 zb_16_4
              refine zw_ite (fun h14 => ?_) (fun h14 => ?_)
              · refine zw_b (by omega) ?_
                refine zw_some ?_
                refine zw_ite (fun h15 => ?_) (fun h15 => ?_)
                · exact zw_some ⟨hIm0, hFm0, hRK54m0, ⟨by omega, by omega⟩⟩
                · exfalso; omega
              · refine zw_b (by omega) ?_
                refine zw_some ?_
                refine zw_ite (fun h16 => ?_) (fun h16 => ?_)
                · exfalso; omega
                · refine zw_bd (zw_mono (zk_304 n hIm0 zq_153 ⟨by omega, by omega⟩ ⟨by omega, by omega⟩ ⟨by omega, by omega⟩ hRK54m0) (fun v18 m17 hqm17 => ?_))
                  obtain ⟨hIm17, hfm17, hvm17⟩ := hqm17
                  have hFm17 := zfr_tr hFm0 hfm17 rfl
                  obtain ⟨hRK54m17, hvm17⟩ := hvm17
                  exact zw_some ⟨hIm17, hFm17, hRK54m17, ⟨by omega, by omega⟩⟩
        · exact zw_some ⟨hIm0, hFm0, hRK54m0, ⟨by omega, by omega⟩⟩
set_option maxHeartbeats 4000000 in
theorem zl_137 (n : Nat) {a0 a1 a2 : Int} {m0 : zu_m} (hc0 : zcls a0 = 28)   : ∀ k : Nat, (∀ (x3 x4 : Int) (mh : zu_m), zi_I mh → zfr [(28, 54), (28, 64), (122, 0), (123, 0), (124, 0), (128, 0), (129, 0), (131, 0)] m0 mh → (0 ≤ a1 ∧ a1 ≤ 1) → (0 ≤ a2 ∧ a2 ≤ 3) → (0 ≤ x3 ∧ x3 ≤ 47) → (0 ≤ x4 ∧ x4 ≤ 18) → (zR_KN mh) → (18 - x4) * 1 + 0 < (k : Int) → zw (zu_ex (zt_T n) 137 14 [(40, a0), (0, a1), (0, a2), (0, x3), (0, x4), (2, 0), (2, 0)] [] mh) (fun v m => zi_I m ∧ zfr [(28, 54), (28, 64), (122, 0), (123, 0), (124, 0), (128, 0), (129, 0), (131, 0)] m0 m ∧ zR_KN m ∧ True)) := by
  intro k
  induction k with
  | zero => exact fun x3 x4 mh hImh hFmh hba1 hba2 hbx3 hbx4 hRKNmh hM => by exfalso; omega
  | succ k ih =>
    intro x3 x4 mh hImh hFmh hba1 hba2 hbx3 hbx4 hRKNmh hM
    refine zw_eq (zu_rega_at (zt_T n) (zm_137 n) (zdp_137 n) _ _ _ _ _ _ (zr_137_14 n _ _ a0 a1 a2 x3 x4 mh)) ?_
    have b1 : 0 ≤ a1 ∧ a1 < 2 := by omega
    refine zw_if b1 ?_
    have r2 : 0 ≤ (mh 216 a1) ∧ (mh 216 a1) ≤ 18 := zi_rdr (m := 2) (r0 := 0) (r1 := 1) hImh zq_216 (by omega) (by decide +kernel)
    refine zw_ite (fun h3 => ?_) (fun h3 => ?_)
    · have b4 : 0 ≤ a1 ∧ a1 < 2 := by omega
      refine zw_if b4 ?_
      have r5 : (-9223372036854775808) ≤ (mh 220 a1) ∧ (mh 220 a1) ≤ 9223372036854775807 := zi_rd hImh zq_220 (zb_129 _)
      have b6 := zu_shl_rg 1 x3
      have b7 := zu_i64_rg 4 (mh 220 a1) (zu_shl 1 x3)
      have b8 : 0 ≤ a1 ∧ a1 < 2 := by omega
      refine zw_if b8 ?_
      generalize hmm9 : zu_up mh 220 a1 (zu_i64 4 (mh 220 a1) (zu_shl 1 x3)) = m9
      have hIm9 := zi_up hmm9 hImh zq_220 (zb_129 _) (by omega) (by omega)
      have hFm9 := zfr_up hmm9 hFmh zq_220 rfl
      have hRKNm9 := zR_KN_fr (zdis_fr (zfr_up hmm9 (zfr_rf [(129, 0)] _) zq_220 rfl) rfl) hRKNmh
      refine zw_ite (fun h10 => ?_) (fun h10 => ?_)
      · have b11 : 0 ≤ a2 ∧ a2 < 4 := by omega
        refine zw_if b11 ?_
        have r12 : (-2147483648) ≤ (m9 219 a2) ∧ (m9 219 a2) ≤ 2147483647 := zi_rd hIm9 zq_219 (zb_128 _)
        have w13 := zu_w32_rg ((m9 219 a2) + 1)
        have b14 : 0 ≤ a2 ∧ a2 < 4 := by omega
        refine zw_if b14 ?_
        generalize hmm15 : zu_up m9 219 a2 (zu_w32 ((m9 219 a2) + 1)) = m15
        have hIm15 := zi_up hmm15 hIm9 zq_219 (zb_128 _) (by omega) (by omega)
        have hFm15 := zfr_up hmm15 hFm9 zq_219 rfl
        have hRKNm15 := zR_KN_fr (zdis_fr (zfr_up hmm15 (zfr_rf [(128, 0)] _) zq_219 rfl) rfl) hRKNm9
        have b16 : 0 ≤ x3 ∧ x3 < 48 := by omega
        refine zw_if b16 ?_
        have r17 : (-2147483648) ≤ (m15 222 x3) ∧ (m15 222 x3) ≤ 2147483647 := zi_rd hIm15 zq_222 (zb_131 _)
        refine zw_bd (zw_mono (zk_138 n hIm15 hc0 ⟨by omega, by omega⟩ ⟨by omega, by omega⟩ ⟨by omega, by omega⟩ hRKNm15) (fun v19 m18 hqm18 => ?_))
        obtain ⟨hIm18, hfm18, hvm18⟩ := hqm18
        have hFm18 := zfr_tr hFm15 hfm18 rfl
        obtain ⟨hRKNm18, hvm18⟩ := hvm18
        have b20 : 0 ≤ x3 ∧ x3 < 48 := by omega
        refine zw_if b20 ?_
        generalize hmm21 : zu_up m18 222 x3 v19 = m21
        have hIm21 := zi_up hmm21 hIm18 zq_222 (zb_131 _) (by omega) (by omega)
        have hFm21 := zfr_up hmm21 hFm18 zq_222 rfl
        have hRKNm21 := zR_KN_fr (zdis_fr (zfr_up hmm21 (zfr_rf [(131, 0)] _) zq_222 rfl) rfl) hRKNm18
        exact zw_some ⟨hIm21, hFm21, hRKNm21, trivial⟩
      · exact zw_some ⟨hIm9, hFm9, hRKNm9, trivial⟩
    · have w22 := zu_w32_id (z := 18 * a1) (by omega) (by omega)
      have w23 := zu_w32_id (z := (zu_w32 (18 * a1)) + x4) (by omega) (by omega)
      have b24 : 0 ≤ (zu_w32 ((zu_w32 (18 * a1)) + x4)) ∧ (zu_w32 ((zu_w32 (18 * a1)) + x4)) < 36 := by omega
      refine zw_if b24 ?_
      have r25 : (-3) ≤ (mh 215 (zu_w32 ((zu_w32 (18 * a1)) + x4))) ∧ (mh 215 (zu_w32 ((zu_w32 (18 * a1)) + x4))) ≤ 3 := zi_rd hImh zq_215 (zb_124 _)
      refine zw_ite (fun h26 => ?_) (fun h26 => ?_)
      · have w27 := zu_w32_id (z := x4 + 1) (by omega) (by omega)
        have hM : (18 - (zu_w32 (x4 + 1))) * 1 + 0 < (k : Int) := by omega
        exact ih x3 (zu_w32 (x4 + 1)) mh hImh hFmh ⟨by omega, by omega⟩ ⟨by omega, by omega⟩ ⟨by omega, by omega⟩ ⟨by omega, by omega⟩ hRKNmh hM
      · have b28 : 0 ≤ x4 ∧ x4 < 36 := by omega
        refine zw_if b28 ?_
        have r29 : 0 ≤ (mh 197 x4) ∧ (mh 197 x4) ≤ 47 := zi_rd hImh zq_197 (zb_106 _)
        refine zw_ite (fun h30 => ?_) (fun h30 => ?_)
        · have w31 := zu_w32_id (z := x4 + 1) (by omega) (by omega)
          have hM : (18 - (zu_w32 (x4 + 1))) * 1 + 0 < (k : Int) := by omega
          exact ih x3 (zu_w32 (x4 + 1)) mh hImh hFmh ⟨by omega, by omega⟩ ⟨by omega, by omega⟩ ⟨by omega, by omega⟩ ⟨by omega, by omega⟩ hRKNmh hM
        · have r32 : (-2147483648) ≤ (mh a0 64) ∧ (mh a0 64) ≤ 2147483647 := zi_rd hImh hc0 zb_28_64
          refine zw_ite (fun h33 => ?_) (fun h33 => ?_)
          · refine zw_bd (zw_mono (zk_131 n hImh hc0 ⟨by omega, by omega⟩ ⟨by omega, by omega⟩ ⟨by omega, by omega⟩ hRKNmh) (fun v35 m34 hqm34 => ?_))
            obtain ⟨hIm34, hfm34, hvm34⟩ := hqm34
            have hFm34 := zfr_tr hFmh hfm34 rfl
            obtain ⟨hRKNm34, hvm34⟩ := hvm34
            have r36 : 0 ≤ (m34 a0 65) ∧ (m34 a0 65) ≤ 1 := zi_rd hIm34 hc0 zb_28_65
            refine zw_ite (fun h37 => ?_) (fun h37 => ?_)
            · refine zw_bd (zw_mono (zk_136 n hIm34 hc0 ⟨by omega, by omega⟩) (fun v39 m38 hqm38 => ?_))
              obtain ⟨hIm38, hfm38, hvm38⟩ := hqm38
              have hFm38 := zfr_tr hFm34 hfm38 rfl
              have hRKNm38 := zR_KN_fr (zdis_fr hfm38 rfl) hRKNm34
              refine zw_ite (fun h40 => ?_) (fun h40 => ?_)
              · refine zw_ite (fun h41 => ?_) (fun h41 => ?_)
                · have w42 := zu_w32_id (z := x4 + 1) (by omega) (by omega)
                  have hM : (18 - (zu_w32 (x4 + 1))) * 1 + 0 < (k : Int) := by omega
                  exact zw_le (zu_forget (zu_lr_same (zu_lr_same (zu_lr_same (zu_lr_same (zu_lr_same (zu_lr_drop (zu_lr_drop zu_lr_nil)))))))) (ih x3 (zu_w32 (x4 + 1)) m38 hIm38 hFm38 ⟨by omega, by omega⟩ ⟨by omega, by omega⟩ ⟨by omega, by omega⟩ ⟨by omega, by omega⟩ hRKNm38 hM)
                · exfalso; omega
              · refine zw_ite (fun h43 => ?_) (fun h43 => ?_)
                · exfalso; omega
                · have b44 : 0 ≤ (zu_w32 ((zu_w32 (18 * a1)) + x4)) ∧ (zu_w32 ((zu_w32 (18 * a1)) + x4)) < 36 := by omega
                  refine zw_if b44 ?_
                  generalize hmm45 : zu_up m38 215 (zu_w32 ((zu_w32 (18 * a1)) + x4)) a2 = m45
                  have hIm45 := zi_up hmm45 hIm38 zq_215 (zb_124 _) (by omega) (by omega)
                  have hFm45 := zfr_up hmm45 hFm38 zq_215 rfl
                  have hRKNm45 := zR_KN_fr (zdis_fr (zfr_up hmm45 (zfr_rf [(124, 0)] _) zq_215 rfl) rfl) hRKNm38
                  have w46 := zu_w32_id (z := x4 + 1) (by omega) (by omega)
                  have hM : (18 - (zu_w32 (x4 + 1))) * 1 + 0 < (k : Int) := by omega
                  exact zw_le (zu_forget (zu_lr_same (zu_lr_same (zu_lr_same (zu_lr_same (zu_lr_same (zu_lr_drop (zu_lr_drop zu_lr_nil)))))))) (ih x3 (zu_w32 (x4 + 1)) m45 hIm45 hFm45 ⟨by omega, by omega⟩ ⟨by omega, by omega⟩ ⟨by omega, by omega⟩ ⟨by omega, by omega⟩ hRKNm45 hM)
            · refine zw_ite (fun h47 => ?_) (fun h47 => ?_)
              · refine zw_ite (fun h48 => ?_) (fun h48 => ?_)
                · have w49 := zu_w32_id (z := x4 + 1) (by omega) (by omega)
                  have hM : (18 - (zu_w32 (x4 + 1))) * 1 + 0 < (k : Int) := by omega
                  exact zw_le (zu_forget (zu_lr_same (zu_lr_same (zu_lr_same (zu_lr_same (zu_lr_same (zu_lr_drop (zu_lr_drop zu_lr_nil)))))))) (ih x3 (zu_w32 (x4 + 1)) m34 hIm34 hFm34 ⟨by omega, by omega⟩ ⟨by omega, by omega⟩ ⟨by omega, by omega⟩ ⟨by omega, by omega⟩ hRKNm34 hM)
                · exfalso; omega
              · refine zw_ite (fun h50 => ?_) (fun h50 => ?_)
                · exfalso; omega
                · have b51 : 0 ≤ (zu_w32 ((zu_w32 (18 * a1)) + x4)) ∧ (zu_w32 ((zu_w32 (18 * a1)) + x4)) < 36 := by omega
                  refine zw_if b51 ?_
                  generalize hmm52 : zu_up m34 215 (zu_w32 ((zu_w32 (18 * a1)) + x4)) a2 = m52
                  have hIm52 := zi_up hmm52 hIm34 zq_215 (zb_124 _) (by omega) (by omega)
                  have hFm52 := zfr_up hmm52 hFm34 zq_215 rfl
                  have hRKNm52 := zR_KN_fr (zdis_fr (zfr_up hmm52 (zfr_rf [(124, 0)] _) zq_215 rfl) rfl) hRKNm34
                  have w53 := zu_w32_id (z := x4 + 1) (by omega) (by omega)
                  have hM : (18 - (zu_w32 (x4 + 1))) * 1 + 0 < (k : Int) := by omega
                  exact zw_le (zu_forget (zu_lr_same (zu_lr_same (zu_lr_same (zu_lr_same (zu_lr_same (zu_lr_drop (zu_lr_drop zu_lr_nil)))))))) (ih x3 (zu_w32 (x4 + 1)) m52 hIm52 hFm52 ⟨by omega, by omega⟩ ⟨by omega, by omega⟩ ⟨by omega, by omega⟩ ⟨by omega, by omega⟩ hRKNm52 hM)
          · have b54 : 0 ≤ x4 ∧ x4 < 36 := by omega
            refine zw_if b54 ?_
            have r55 : 0 ≤ (mh 198 x4) ∧ (mh 198 x4) ≤ 3 := zi_rd hImh zq_198 (zb_107 _)
            refine zw_nif (by omega) ?_
            have d56 : Int.tmod a2 4 = a2 % 4 := Int.tmod_eq_emod_of_nonneg (by omega)
            refine zw_ite (fun h57 => ?_) (fun h57 => ?_)
            · refine zw_bd (zw_mono (zk_131 n hImh hc0 ⟨by omega, by omega⟩ ⟨by omega, by omega⟩ ⟨by omega, by omega⟩ hRKNmh) (fun v59 m58 hqm58 => ?_))
              obtain ⟨hIm58, hfm58, hvm58⟩ := hqm58
              have hFm58 := zfr_tr hFmh hfm58 rfl
              obtain ⟨hRKNm58, hvm58⟩ := hvm58
              have r60 : 0 ≤ (m58 a0 65) ∧ (m58 a0 65) ≤ 1 := zi_rd hIm58 hc0 zb_28_65
              refine zw_ite (fun h61 => ?_) (fun h61 => ?_)
              · refine zw_bd (zw_mono (zk_136 n hIm58 hc0 ⟨by omega, by omega⟩) (fun v63 m62 hqm62 => ?_))
                obtain ⟨hIm62, hfm62, hvm62⟩ := hqm62
                have hFm62 := zfr_tr hFm58 hfm62 rfl
                have hRKNm62 := zR_KN_fr (zdis_fr hfm62 rfl) hRKNm58
                refine zw_ite (fun h64 => ?_) (fun h64 => ?_)
                · refine zw_ite (fun h65 => ?_) (fun h65 => ?_)
                  · have w66 := zu_w32_id (z := x4 + 1) (by omega) (by omega)
                    have hM : (18 - (zu_w32 (x4 + 1))) * 1 + 0 < (k : Int) := by omega
                    exact zw_le (zu_forget (zu_lr_same (zu_lr_same (zu_lr_same (zu_lr_same (zu_lr_same (zu_lr_drop (zu_lr_drop zu_lr_nil)))))))) (ih x3 (zu_w32 (x4 + 1)) m62 hIm62 hFm62 ⟨by omega, by omega⟩ ⟨by omega, by omega⟩ ⟨by omega, by omega⟩ ⟨by omega, by omega⟩ hRKNm62 hM)
                  · exfalso; omega
                · refine zw_ite (fun h67 => ?_) (fun h67 => ?_)
                  · exfalso; omega
                  · have b68 : 0 ≤ (zu_w32 ((zu_w32 (18 * a1)) + x4)) ∧ (zu_w32 ((zu_w32 (18 * a1)) + x4)) < 36 := by omega
                    refine zw_if b68 ?_
                    generalize hmm69 : zu_up m62 215 (zu_w32 ((zu_w32 (18 * a1)) + x4)) a2 = m69
                    have hIm69 := zi_up hmm69 hIm62 zq_215 (zb_124 _) (by omega) (by omega)
                    have hFm69 := zfr_up hmm69 hFm62 zq_215 rfl
                    have hRKNm69 := zR_KN_fr (zdis_fr (zfr_up hmm69 (zfr_rf [(124, 0)] _) zq_215 rfl) rfl) hRKNm62
                    have w70 := zu_w32_id (z := x4 + 1) (by omega) (by omega)
                    have hM : (18 - (zu_w32 (x4 + 1))) * 1 + 0 < (k : Int) := by omega
                    exact zw_le (zu_forget (zu_lr_same (zu_lr_same (zu_lr_same (zu_lr_same (zu_lr_same (zu_lr_drop (zu_lr_drop zu_lr_nil)))))))) (ih x3 (zu_w32 (x4 + 1)) m69 hIm69 hFm69 ⟨by omega, by omega⟩ ⟨by omega, by omega⟩ ⟨by omega, by omega⟩ ⟨by omega, by omega⟩ hRKNm69 hM)
              · refine zw_ite (fun h71 => ?_) (fun h71 => ?_)
                · refine zw_ite (fun h72 => ?_) (fun h72 => ?_)
                  · have w73 := zu_w32_id (z := x4 + 1) (by omega) (by omega)
                    have hM : (18 - (zu_w32 (x4 + 1))) * 1 + 0 < (k : Int) := by omega
                    exact zw_le (zu_forget (zu_lr_same (zu_lr_same (zu_lr_same (zu_lr_same (zu_lr_same (zu_lr_drop (zu_lr_drop zu_lr_nil)))))))) (ih x3 (zu_w32 (x4 + 1)) m58 hIm58 hFm58 ⟨by omega, by omega⟩ ⟨by omega, by omega⟩ ⟨by omega, by omega⟩ ⟨by omega, by omega⟩ hRKNm58 hM)
                  · exfalso; omega
                · refine zw_ite (fun h74 => ?_) (fun h74 => ?_)
                  · exfalso; omega
                  · have b75 : 0 ≤ (zu_w32 ((zu_w32 (18 * a1)) + x4)) ∧ (zu_w32 ((zu_w32 (18 * a1)) + x4)) < 36 := by omega
                    refine zw_if b75 ?_
                    generalize hmm76 : zu_up m58 215 (zu_w32 ((zu_w32 (18 * a1)) + x4)) a2 = m76
                    have hIm76 := zi_up hmm76 hIm58 zq_215 (zb_124 _) (by omega) (by omega)
                    have hFm76 := zfr_up hmm76 hFm58 zq_215 rfl
                    have hRKNm76 := zR_KN_fr (zdis_fr (zfr_up hmm76 (zfr_rf [(124, 0)] _) zq_215 rfl) rfl) hRKNm58
                    have w77 := zu_w32_id (z := x4 + 1) (by omega) (by omega)
                    have hM : (18 - (zu_w32 (x4 + 1))) * 1 + 0 < (k : Int) := by omega
                    exact zw_le (zu_forget (zu_lr_same (zu_lr_same (zu_lr_same (zu_lr_same (zu_lr_same (zu_lr_drop (zu_lr_drop zu_lr_nil)))))))) (ih x3 (zu_w32 (x4 + 1)) m76 hIm76 hFm76 ⟨by omega, by omega⟩ ⟨by omega, by omega⟩ ⟨by omega, by omega⟩ ⟨by omega, by omega⟩ hRKNm76 hM)
            · have w78 := zu_w32_id (z := x4 + 1) (by omega) (by omega)
              have hM : (18 - (zu_w32 (x4 + 1))) * 1 + 0 < (k : Int) := by omega
              exact ih x3 (zu_w32 (x4 + 1)) mh hImh hFmh ⟨by omega, by omega⟩ ⟨by omega, by omega⟩ ⟨by omega, by omega⟩ ⟨by omega, by omega⟩ hRKNmh hM
set_option maxHeartbeats 4000000 in
theorem zk_137 (n : Nat) {a0 a1 a2 : Int} {m0 : zu_m} (hIm0 : zi_I m0) (hc0 : zcls a0 = 28) (ha1 : 0 ≤ a1 ∧ a1 ≤ 1) (ha2 : 0 ≤ a2 ∧ a2 ≤ 3)    (hRKNm0 : zR_KN m0) : zw (zu_call (zt_T n) 137 [(40, a0), (0, a1), (0, a2)] m0) (fun v m => zi_I m ∧ zfr [(28, 54), (28, 64), (122, 0), (123, 0), (124, 0), (128, 0), (129, 0), (131, 0)] m0 m ∧ zR_KN m ∧ True) := by
  have hFm0 : zfr [(28, 54), (28, 64), (122, 0), (123, 0), (124, 0), (128, 0), (129, 0), (131, 0)] m0 m0 := zfr_rf _ _
  refine zw_eq (zu_call_at (zt_T n) (zm_137 n) (zdp_137 n) _ _ _ _ _ rfl (zr_137_0 n _ _ a0 a1 a2 m0)) ?_
  have w79 := zu_w32_id (z := 4 * a1) (by omega) (by omega)
  have w80 := zu_w32_id (z := (zu_w32 (4 * a1)) + a2) (by omega) (by omega)
  have b81 : 0 ≤ (zu_w32 ((zu_w32 (4 * a1)) + a2)) ∧ (zu_w32 ((zu_w32 (4 * a1)) + a2)) < 8 := by omega
  refine zw_if b81 ?_
  have r82 : 0 ≤ (m0 217 (zu_w32 ((zu_w32 (4 * a1)) + a2))) ∧ (m0 217 (zu_w32 ((zu_w32 (4 * a1)) + a2))) ≤ 47 := zi_rd hIm0 zq_217 (zb_126 _)
  have hM : (18 - 0) * 1 + 0 < ((19 : Nat) : Int) := by omega
  exact (zl_137 n (m0 := m0) hc0 19) (m0 217 (zu_w32 ((zu_w32 (4 * a1)) + a2))) 0 m0 hIm0 hFm0 ⟨by omega, by omega⟩ ⟨by omega, by omega⟩ ⟨by omega, by omega⟩ ⟨by omega, by omega⟩ hRKNm0 hM
set_option maxHeartbeats 4000000 in
theorem zk_146 (n : Nat) {a0 a1 a2 : Int} {m0 : zu_m} (hIm0 : zi_I m0) (hc0 : zcls a0 = 28) (ha1 : (-2147483648) ≤ a1 ∧ a1 ≤ 2147483647) (ha2 : (-2147483648) ≤ a2 ∧ a2 ≤ 2147483647)    (hRKNm0 : zR_KN m0) : zw (zu_call (zt_T n) 146 [(40, a0), (0, a1), (0, a2)] m0) (fun v m => zi_I m ∧ zfr [(28, 3), (28, 54), (122, 0), (123, 0)] m0 m ∧ zR_KN m ∧ ((-2147483648) ≤ v ∧ v ≤ 2147483647) ∧ (0 ≤ m a0 2 ∧ m a0 2 ≤ 0)) := by
  have hFm0 : zfr [(28, 3), (28, 54), (122, 0), (123, 0)] m0 m0 := zfr_rf _ _
  refine zw_eq (zu_call_at (zt_T n) (zm_146 n) (zdp_146 n) _ _ _ _ _ rfl (zr_146_0 n _ _ a0 a1 a2 m0)) ?_
  generalize hmm1 : zu_up m0 a0 2 0 = m1
  have hIm1 := zi_up hmm1 hIm0 hc0 zb_28_2 (by omega) (by omega)
  have hFm1 := zfr_up hmm1 hFm0 hc0 rfl
  have hRKNm1 := zR_KN_fr (zdis_fr (zfr_up hmm1 (zfr_rf [(28, 3)] _) hc0 rfl) rfl) hRKNm0
  refine zw_bd (zw_eq (zu_call_at (zt_T n) (zm_125 n) (zdp_125 n) _ _ _ _ _ rfl (zr_125_0 n _ _ a0 a1 m1)) ?_)
  refine zw_ite (fun h2 => ?_) (fun h2 => ?_)
  · refine zw_b (by omega) ?_
    refine zw_some ?_
    refine zw_ite (fun h3 => ?_) (fun h3 => ?_)
    · have r4 : (-2147483648) ≤ (m1 a0 2) ∧ (m1 a0 2) ≤ 2147483647 := zi_rd hIm1 hc0 zb_28_2
      have e5 : (m1 a0 2) = 0 := (zs_eq hmm1)
      exact zw_some ⟨hIm1, hFm1, hRKNm1, ⟨by omega, by omega⟩, ⟨by omega, by omega⟩⟩
    · exfalso; omega
  · have r6 : 0 ≤ (m1 a0 15) ∧ (m1 a0 15) ≤ 4 := zi_rd hIm1 hc0 zb_28_15
    refine zw_ite (fun h7 => ?_) (fun h7 => ?_)
    · refine zw_b (by omega) ?_
      refine zw_some ?_
      refine zw_ite (fun h8 => ?_) (fun h8 => ?_)
      · have r9 : (-2147483648) ≤ (m1 a0 2) ∧ (m1 a0 2) ≤ 2147483647 := zi_rd hIm1 hc0 zb_28_2
        have e10 : (m1 a0 2) = 0 := (zs_eq hmm1)
        exact zw_some ⟨hIm1, hFm1, hRKNm1, ⟨by omega, by omega⟩, ⟨by omega, by omega⟩⟩
      · exfalso; omega
    · refine zw_b (by omega) ?_
      refine zw_some ?_
      refine zw_ite (fun h11 => ?_) (fun h11 => ?_)
      · exfalso; omega
      · refine zw_bd (zw_eq (zu_call_at (zt_T n) (zm_124 n) (zdp_124 n) _ _ _ _ _ rfl (zr_124_0 n _ _ a0 a2 m1)) ?_)
        refine zw_ite (fun h12 => ?_) (fun h12 => ?_)
        · refine zw_b (by omega) ?_
          refine zw_some ?_
          refine zw_ite (fun h13 => ?_) (fun h13 => ?_)
          · have r14 : (-2147483648) ≤ (m1 a0 2) ∧ (m1 a0 2) ≤ 2147483647 := zi_rd hIm1 hc0 zb_28_2
            have e15 : (m1 a0 2) = 0 := (zs_eq hmm1)
            exact zw_some ⟨hIm1, hFm1, hRKNm1, ⟨by omega, by omega⟩, ⟨by omega, by omega⟩⟩
          · exfalso; omega
        · have b16 : 0 ≤ (0 : Int) ∧ (0 : Int) < 2 := by omega
          refine zw_if b16 ?_
          have r17 : 0 ≤ (m1 216 0) ∧ (m1 216 0) ≤ 16 := zi_rdr (m := 2) (r0 := 0) (r1 := 0) hIm1 zq_216 (by omega) (by decide +kernel)
          refine zw_ite (fun h18 => ?_) (fun h18 => ?_)
          · refine zw_b (by omega) ?_
            refine zw_some ?_
            refine zw_ite (fun h19 => ?_) (fun h19 => ?_)
            · have r20 : (-2147483648) ≤ (m1 a0 2) ∧ (m1 a0 2) ≤ 2147483647 := zi_rd hIm1 hc0 zb_28_2
              have e21 : (m1 a0 2) = 0 := (zs_eq hmm1)
              exact zw_some ⟨hIm1, hFm1, hRKNm1, ⟨by omega, by omega⟩, ⟨by omega, by omega⟩⟩
            · exfalso; omega
          · refine zw_b (by omega) ?_
            refine zw_some ?_
            refine zw_ite (fun h22 => ?_) (fun h22 => ?_)
            · exfalso; omega
            · refine zw_bd (zw_mono (zk_131 n hIm1 hc0 ⟨by omega, by omega⟩ ⟨by omega, by omega⟩ ⟨by omega, by omega⟩ hRKNm1) (fun v24 m23 hqm23 => ?_))
              obtain ⟨hIm23, hfm23, hvm23⟩ := hqm23
              have hFm23 := zfr_tr hFm1 hfm23 rfl
              obtain ⟨hRKNm23, hvm23⟩ := hvm23
              have r25 : (-2147483648) ≤ (m23 a0 2) ∧ (m23 a0 2) ≤ 2147483647 := zi_rd hIm23 hc0 zb_28_2
              have e26 : (m23 a0 2) = 0 := (Eq.trans (zfr_ap hfm23 hc0 rfl) (zs_eq hmm1))
              exact zw_some ⟨hIm23, hFm23, hRKNm23, ⟨by omega, by omega⟩, ⟨by omega, by omega⟩⟩
set_option maxHeartbeats 4000000 in
theorem zl_158 (n : Nat) {a0 a1 a2 : Int} {m0 : zu_m} (hc0 : zcls a0 = 28)   : ∀ k : Nat, (∀ (x3 x4 : Int) (mh : zu_m), zi_I mh → zfr [(28, 3), (28, 54), (28, 65), (28, 66), (28, 67), (28, 68), (28, 69), (28, 70), (122, 0), (123, 0), (132, 0)] m0 mh → (0 ≤ a1 ∧ a1 ≤ 3) → (1 ≤ a2 ∧ a2 ≤ 99999) → (0 ≤ x3 ∧ x3 ≤ 47) → (0 ≤ x4 ∧ x4 ≤ 40) → (1 ≤ mh a0 15 ∧ mh a0 15 ≤ 4) → (0 ≤ mh a0 2 ∧ mh a0 2 ≤ 0) → (zR_KN mh) → (40 - x4) * 1 + 0 < (k : Int) → zw (zu_ex (zt_T n) 158 39 [(40, a0), (0, a1), (0, a2), (0, x3), (0, x4), (2, 0)] [] mh) (fun v m => zi_I m ∧ zfr [(28, 3), (28, 54), (28, 65), (28, 66), (28, 67), (28, 68), (28, 69), (28, 70), (122, 0), (123, 0), (132, 0)] m0 m ∧ zR_KN m ∧ ((-1) ≤ v ∧ v ≤ 40) ∧ (0 ≤ m a0 2 ∧ m a0 2 ≤ 0))) := by
  intro k
  induction k with
  | zero => exact fun x3 x4 mh hImh hFmh hba1 hba2 hbx3 hbx4 hg4 hg5 hRKNmh hM => by exfalso; omega
  | succ k ih =>
    intro x3 x4 mh hImh hFmh hba1 hba2 hbx3 hbx4 hg4 hg5 hRKNmh hM
    refine zw_eq (zu_rega_at (zt_T n) (zm_158 n) (zdp_158 n) _ _ _ _ _ _ (zr_158_39 n _ _ a0 a1 a2 x3 x4 mh)) ?_
    refine zw_ite (fun h1 => ?_) (fun h1 => ?_)
    · exact zw_some ⟨hImh, hFmh, hRKNmh, ⟨by omega, by omega⟩, ⟨by omega, by omega⟩⟩
    · refine zw_bd (zw_mono (zk_155 n hImh hc0 ⟨by omega, by omega⟩ ⟨by omega, by omega⟩) (fun v3 m2 hqm2 => ?_))
      obtain ⟨hIm2, hfm2, hvm2⟩ := hqm2
      have hFm2 := zfr_tr hFmh hfm2 rfl
      have hRKNm2 := zR_KN_fr (zdis_fr hfm2 rfl) hRKNmh
      refine zw_ite (fun h4 => ?_) (fun h4 => ?_)
      · have r5 : (-2147483648) ≤ (m2 a0 2) ∧ (m2 a0 2) ≤ 2147483647 := zi_rd hIm2 hc0 zb_28_2
        have e6 : (m2 a0 2) = (mh a0 2) := (zfr_ap hfm2 hc0 rfl)
        exact zw_some ⟨hIm2, hFm2, hRKNm2, ⟨by omega, by omega⟩, ⟨by omega, by omega⟩⟩
      · have b7 : 0 ≤ v3 ∧ v3 < 48 := by omega
        refine zw_if b7 ?_
        have r8 : (-2147483648) ≤ (m2 223 v3) ∧ (m2 223 v3) ≤ 2147483647 := zi_rd hIm2 zq_223 (zb_132 _)
        refine zw_bd (zw_mono (zk_135 n hIm2 hc0 ⟨by omega, by omega⟩ ⟨by omega, by omega⟩) (fun v10 m9 hqm9 => ?_))
        obtain ⟨hIm9, hfm9, hvm9⟩ := hqm9
        have hFm9 := zfr_tr hFm2 hfm9 rfl
        have hRKNm9 := zR_KN_fr (zdis_fr hfm9 rfl) hRKNm2
        have w11 := zu_w32_id (z := v10 + 1) (by omega) (by omega)
        have p12 := zmul_bd (x := a2) (y := (zu_w32 (v10 + 1))) (a := 1) (b := 1) (A := 99999) (B := 55) (by omega) (by omega) (by omega) (by omega) (by omega) (by omega)
        have w13 := zu_w64_id (z := a2 * (zu_w32 (v10 + 1))) (by omega) (by omega)
        have c14 := zu_lcmp_sp (m2 223 v3) (zu_w64 (a2 * (zu_w32 (v10 + 1))))
        refine zw_ite (fun h15 => ?_) (fun h15 => ?_)
        · have b16 : 0 ≤ v3 ∧ v3 < 48 := by omega
          refine zw_if b16 ?_
          have r17 : (-2147483648) ≤ (m9 223 v3) ∧ (m9 223 v3) ≤ 2147483647 := zi_rd hIm9 zq_223 (zb_132 _)
          have e18 : (m9 223 v3) = (m2 223 v3) := (zfr_ap hfm9 zq_223 rfl)
          refine zw_bd (zw_mono (zk_138 n hIm9 hc0 ⟨by omega, by omega⟩ ⟨by omega, by omega⟩ ⟨by omega, by omega⟩ hRKNm9) (fun v20 m19 hqm19 => ?_))
          obtain ⟨hIm19, hfm19, hvm19⟩ := hqm19
          have hFm19 := zfr_tr hFm9 hfm19 rfl
          obtain ⟨hRKNm19, hvm19⟩ := hvm19
          have b21 : 0 ≤ v3 ∧ v3 < 48 := by omega
          refine zw_if b21 ?_
          generalize hmm22 : zu_up m19 223 v3 v20 = m22
          have hIm22 := zi_up hmm22 hIm19 zq_223 (zb_132 _) (by omega) (by omega)
          have hFm22 := zfr_up hmm22 hFm19 zq_223 rfl
          have hRKNm22 := zR_KN_fr (zdis_fr (zfr_up hmm22 (zfr_rf [(132, 0)] _) zq_223 rfl) rfl) hRKNm19
          have w23 := zu_w32_id (z := x4 + 1) (by omega) (by omega)
          have r24 : (-2147483648) ≤ (m22 a0 2) ∧ (m22 a0 2) ≤ 2147483647 := zi_rd hIm22 hc0 zb_28_2
          have e25 : (m22 a0 2) = (mh a0 2) := (Eq.trans (zs_ne hmm22 (Or.inl (zc_ne hc0 zq_223 (by decide)))) (Eq.trans (zfr_ap hfm19 hc0 rfl) (Eq.trans (zfr_ap hfm9 hc0 rfl) (zfr_ap hfm2 hc0 rfl))))
          have r26 : 0 ≤ (m22 a0 15) ∧ (m22 a0 15) ≤ 4 := zi_rd hIm22 hc0 zb_28_15
          have e27 : (m22 a0 15) = (mh a0 15) := (Eq.trans (zs_ne hmm22 (Or.inl (zc_ne hc0 zq_223 (by decide)))) (Eq.trans (zfr_ap hfm19 hc0 rfl) (Eq.trans (zfr_ap hfm9 hc0 rfl) (zfr_ap hfm2 hc0 rfl))))
          have hM : (40 - (zu_w32 (x4 + 1))) * 1 + 0 < (k : Int) := by omega
          exact zw_le (zu_forget (zu_lr_same (zu_lr_same (zu_lr_same (zu_lr_same (zu_lr_same (zu_lr_drop zu_lr_nil))))))) (ih v3 (zu_w32 (x4 + 1)) m22 hIm22 hFm22 ⟨by omega, by omega⟩ ⟨by omega, by omega⟩ ⟨by omega, by omega⟩ ⟨by omega, by omega⟩ ⟨by omega, by omega⟩ ⟨by omega, by omega⟩ hRKNm22 hM)
        · have r28 : (-2147483648) ≤ (m9 a0 2) ∧ (m9 a0 2) ≤ 2147483647 := zi_rd hIm9 hc0 zb_28_2
          have e29 : (m9 a0 2) = (mh a0 2) := (Eq.trans (zfr_ap hfm9 hc0 rfl) (zfr_ap hfm2 hc0 rfl))
          exact zw_some ⟨hIm9, hFm9, hRKNm9, ⟨by omega, by omega⟩, ⟨by omega, by omega⟩⟩
set_option maxHeartbeats 4000000 in
theorem zk_158 (n : Nat) {a0 a1 a2 : Int} {m0 : zu_m} (hIm0 : zi_I m0) (hc0 : zcls a0 = 28) (ha1 : (-2147483648) ≤ a1 ∧ a1 ≤ 2147483647) (ha2 : (-2147483648) ≤ a2 ∧ a2 ≤ 2147483647)    (hRKNm0 : zR_KN m0) : zw (zu_call (zt_T n) 158 [(40, a0), (0, a1), (0, a2)] m0) (fun v m => zi_I m ∧ zfr [(28, 3), (28, 54), (28, 65), (28, 66), (28, 67), (28, 68), (28, 69), (28, 70), (122, 0), (123, 0), (132, 0)] m0 m ∧ zR_KN m ∧ ((-1) ≤ v ∧ v ≤ 40) ∧ (0 ≤ m a0 2 ∧ m a0 2 ≤ 0)) := by
  have hFm0 : zfr [(28, 3), (28, 54), (28, 65), (28, 66), (28, 67), (28, 68), (28, 69), (28, 70), (122, 0), (123, 0), (132, 0)] m0 m0 := zfr_rf _ _
  refine zw_eq (zu_call_at (zt_T n) (zm_158 n) (zdp_158 n) _ _ _ _ _ rfl (zr_158_0 n _ _ a0 a1 a2 m0)) ?_
  generalize hmm30 : zu_up m0 a0 2 0 = m30
  have hIm30 := zi_up hmm30 hIm0 hc0 zb_28_2 (by omega) (by omega)
  have hFm30 := zfr_up hmm30 hFm0 hc0 rfl
  have hRKNm30 := zR_KN_fr (zdis_fr (zfr_up hmm30 (zfr_rf [(28, 3)] _) hc0 rfl) rfl) hRKNm0
  refine zw_bd (zw_eq (zu_call_at (zt_T n) (zm_125 n) (zdp_125 n) _ _ _ _ _ rfl (zr_125_0 n _ _ a0 a1 m30)) ?_)
  refine zw_ite (fun h31 => ?_) (fun h31 => ?_)
  · refine zw_b (by omega) ?_
    refine zw_some ?_
    refine zw_ite (fun h32 => ?_) (fun h32 => ?_)
    · have r33 : (-2147483648) ≤ (m30 a0 2) ∧ (m30 a0 2) ≤ 2147483647 := zi_rd hIm30 hc0 zb_28_2
      have e34 : (m30 a0 2) = 0 := (zs_eq hmm30)
      exact zw_some ⟨hIm30, hFm30, hRKNm30, ⟨by omega, by omega⟩, ⟨by omega, by omega⟩⟩
    · exfalso; omega
  · have r35 : 0 ≤ (m30 a0 15) ∧ (m30 a0 15) ≤ 4 := zi_rd hIm30 hc0 zb_28_15
    refine zw_ite (fun h36 => ?_) (fun h36 => ?_)
    · refine zw_b (by omega) ?_
      refine zw_some ?_
      refine zw_ite (fun h37 => ?_) (fun h37 => ?_)
      · have r38 : (-2147483648) ≤ (m30 a0 2) ∧ (m30 a0 2) ≤ 2147483647 := zi_rd hIm30 hc0 zb_28_2
        have e39 : (m30 a0 2) = 0 := (zs_eq hmm30)
        exact zw_some ⟨hIm30, hFm30, hRKNm30, ⟨by omega, by omega⟩, ⟨by omega, by omega⟩⟩
      · exfalso; omega
    · refine zw_b (by omega) ?_
      refine zw_some ?_
      refine zw_ite (fun h40 => ?_) (fun h40 => ?_)
      · exfalso; omega
      · refine zw_bd (zw_eq (zu_call_at (zt_T n) (zm_83 n) (zdp_83 n) _ _ _ _ _ rfl (zr_83_0 n _ _ a2 1 99999 m30)) ?_)
        refine zw_ite (fun h41 => ?_) (fun h41 => ?_)
        · refine zw_b (by omega) ?_
          refine zw_some ?_
          refine zw_ite (fun h42 => ?_) (fun h42 => ?_)
          · exfalso; omega
          · have r43 : (-2147483648) ≤ (m30 a0 2) ∧ (m30 a0 2) ≤ 2147483647 := zi_rd hIm30 hc0 zb_28_2
            have e44 : (m30 a0 2) = 0 := (zs_eq hmm30)
            exact zw_some ⟨hIm30, hFm30, hRKNm30, ⟨by omega, by omega⟩, ⟨by omega, by omega⟩⟩
        · refine zw_ite (fun h45 => ?_) (fun h45 => ?_)
          · refine zw_b (by omega) ?_
            refine zw_some ?_
            refine zw_ite (fun h46 => ?_) (fun h46 => ?_)
            · exfalso; omega
            · have r47 : (-2147483648) ≤ (m30 a0 2) ∧ (m30 a0 2) ≤ 2147483647 := zi_rd hIm30 hc0 zb_28_2
              have e48 : (m30 a0 2) = 0 := (zs_eq hmm30)
              exact zw_some ⟨hIm30, hFm30, hRKNm30, ⟨by omega, by omega⟩, ⟨by omega, by omega⟩⟩
          · refine zw_b (by omega) ?_
            refine zw_some ?_
            refine zw_ite (fun h49 => ?_) (fun h49 => ?_)
            · refine zw_bd (zw_mono (zk_156 n hIm30 hc0) (fun v51 m50 hqm50 => ?_))
              obtain ⟨hIm50, hfm50, hvm50⟩ := hqm50
              have hFm50 := zfr_tr hFm30 hfm50 rfl
              have hRKNm50 := zR_KN_fr (zdis_fr hfm50 rfl) hRKNm30
              have b52 : 0 ≤ a1 ∧ a1 < 8 := by omega
              refine zw_if b52 ?_
              have r53 : 0 ≤ (m50 217 a1) ∧ (m50 217 a1) ≤ 47 := zi_rd hIm50 zq_217 (zb_126 _)
              have r54 : (-2147483648) ≤ (m50 a0 2) ∧ (m50 a0 2) ≤ 2147483647 := zi_rd hIm50 hc0 zb_28_2
              have e55 : (m50 a0 2) = 0 := (Eq.trans (zfr_ap hfm50 hc0 rfl) (zs_eq hmm30))
              have r56 : 0 ≤ (m50 a0 15) ∧ (m50 a0 15) ≤ 4 := zi_rd hIm50 hc0 zb_28_15
              have e57 : (m50 a0 15) = (m30 a0 15) := (zfr_ap hfm50 hc0 rfl)
              have hM : (40 - 0) * 1 + 0 < ((41 : Nat) : Int) := by omega
              exact (zl_158 n (m0 := m0) hc0 41) (m50 217 a1) 0 m50 hIm50 hFm50 ⟨by omega, by omega⟩ ⟨by omega, by omega⟩ ⟨by omega, by omega⟩ ⟨by omega, by omega⟩ ⟨by omega, by omega⟩ ⟨by omega, by omega⟩ hRKNm50 hM
            · exfalso; omega

set_option maxHeartbeats 4000000 in
theorem zl_177 (n : Nat) {a0 a1 : Int} {m0 : zu_m} (hc0 : zcls a0 = 28)   : ∀ k : Nat, (∀ (x2 : Int) (mh : zu_m), zi_I mh → zfr [(28, 3), (28, 54), (122, 0), (123, 0), (134, 0)] m0 mh → (0 ≤ a1 ∧ a1 ≤ 15) → (0 ≤ x2 ∧ x2 ≤ 4) → (1 ≤ mh 216 0 ∧ mh 216 0 ≤ 16) → (0 ≤ mh a0 2 ∧ mh a0 2 ≤ 0) → (zR_KN mh) → (zR_LT mh) → (4 - x2) * 1 + 85 < (k : Int) → zw (zu_ex (zt_T n) 177 29 [(40, a0), (0, a1), (0, x2), (2, 0), (2, 0)] [] mh) (fun v m => zi_I m ∧ zfr [(28, 3), (28, 54), (122, 0), (123, 0), (134, 0)] m0 m ∧ zR_KN m ∧ zR_LT m ∧ ((-8) ≤ v ∧ v ≤ 3) ∧ (0 ≤ m a0 2 ∧ m a0 2 ≤ 0))) ∧ (∀ (x2 x3 : Int) (mh : zu_m), zi_I mh → zfr [(28, 3), (28, 54), (122, 0), (123, 0), (134, 0)] m0 mh → (0 ≤ a1 ∧ a1 ≤ 15) → (0 ≤ x2 ∧ x2 ≤ 3) → (0 ≤ x3 ∧ x3 ≤ 16) → (1 ≤ mh 216 0 ∧ mh 216 0 ≤ 16) → (0 ≤ mh a0 2 ∧ mh a0 2 ≤ 0) → (zR_KN mh) → (zR_LT mh) → (16 - x3) * 5 + 4 < (k : Int) → zw (zu_ex (zt_T n) 177 51 [(40, a0), (0, a1), (0, x2), (0, x3), (2, 0)] [] mh) (fun v m => zi_I m ∧ zfr [(28, 3), (28, 54), (122, 0), (123, 0), (134, 0)] m0 m ∧ zR_KN m ∧ zR_LT m ∧ ((-8) ≤ v ∧ v ≤ 3) ∧ (0 ≤ m a0 2 ∧ m a0 2 ≤ 0))) ∧ (∀ (x2 x3 x4 : Int) (mh : zu_m), zi_I mh → zfr [(28, 3), (28, 54), (122, 0), (123, 0), (134, 0)] m0 mh → (0 ≤ a1 ∧ a1 ≤ 15) → (0 ≤ x2 ∧ x2 ≤ 3) → (0 ≤ x3 ∧ x3 ≤ 15) → (1 ≤ x4 ∧ x4 ≤ 4) → (1 ≤ mh 216 0 ∧ mh 216 0 ≤ 16) → (0 ≤ mh a0 2 ∧ mh a0 2 ≤ 0) → (zR_KN mh) → (zR_LT mh) → (4 - x4) * 1 + (16 - x3) * 5 + 0 < (k : Int) → zw (zu_ex (zt_T n) 177 73 [(40, a0), (0, a1), (0, x2), (0, x3), (0, x4)] [] mh) (fun v m => zi_I m ∧ zfr [(28, 3), (28, 54), (122, 0), (123, 0), (134, 0)] m0 m ∧ zR_KN m ∧ zR_LT m ∧ ((-8) ≤ v ∧ v ≤ 3) ∧ (0 ≤ m a0 2 ∧ m a0 2 ≤ 0))) := by
  intro k
  induction k with
  | zero => exact ⟨fun x2 mh hImh hFmh hba1 hbx2 hg2 hg3 hRKNmh hRLTmh hM => by exfalso; omega, fun x2 x3 mh hImh hFmh hba1 hbx2 hbx3 hg3 hg4 hRKNmh hRLTmh hM => by exfalso; omega, fun x2 x3 x4 mh hImh hFmh hba1 hbx2 hbx3 hbx4 hg4 hg5 hRKNmh hRLTmh hM => by exfalso; omega⟩
  | succ k ih =>
    refine ⟨?_, ?_, ?_⟩
    · intro x2 mh hImh hFmh hba1 hbx2 hg2 hg3 hRKNmh hRLTmh hM
      refine zw_eq (zu_rega_at (zt_T n) (zm_177 n) (zdp_177 n) _ _ _ _ _ _ (zr_177_29 n _ _ a0 a1 x2 mh)) ?_
      refine zw_ite (fun h1 => ?_) (fun h1 => ?_)
      · have hM : (16 - 0) * 5 + 4 < (k : Int) := by omega
        exact ih.2.1 0 0 mh hImh hFmh ⟨by omega, by omega⟩ ⟨by omega, by omega⟩ ⟨by omega, by omega⟩ ⟨by omega, by omega⟩ ⟨by omega, by omega⟩ hRKNmh hRLTmh hM
      · have b2 : 0 ≤ x2 ∧ x2 < 4 := by omega
        refine zw_if b2 ?_
        generalize hmm3 : zu_up mh 225 x2 0 = m3
        have hIm3 := zi_up hmm3 hImh zq_225 (zb_134 _) (by omega) (by omega)
        have hFm3 := zfr_up hmm3 hFmh zq_225 rfl
        have hRKNm3 := zR_KN_fr (zdis_fr (zfr_up hmm3 (zfr_rf [(134, 0)] _) zq_225 rfl) rfl) hRKNmh
        have hRLTm3 := zR_LT_fr (zdis_fr (zfr_up hmm3 (zfr_rf [(134, 0)] _) zq_225 rfl) rfl) hRLTmh
        have w4 := zu_w32_id (z := x2 + 1) (by omega) (by omega)
        have r5 : (-2147483648) ≤ (m3 a0 2) ∧ (m3 a0 2) ≤ 2147483647 := zi_rd hIm3 hc0 zb_28_2
        have e6 : (m3 a0 2) = (mh a0 2) := (zs_ne hmm3 (Or.inl (zc_ne hc0 zq_225 (by decide))))
        have r7 : 0 ≤ (m3 216 0) ∧ (m3 216 0) ≤ 16 := zi_rdr (m := 2) (r0 := 0) (r1 := 0) hIm3 zq_216 (by omega) (by decide +kernel)
        have e8 : (m3 216 0) = (mh 216 0) := (zs_ne hmm3 (Or.inl (zc_ne zq_216 zq_225 (by decide))))
        have hM : (4 - (zu_w32 (x2 + 1))) * 1 + 85 < (k : Int) := by omega
        exact ih.1 (zu_w32 (x2 + 1)) m3 hIm3 hFm3 ⟨by omega, by omega⟩ ⟨by omega, by omega⟩ ⟨by omega, by omega⟩ ⟨by omega, by omega⟩ hRKNm3 hRLTm3 hM
    · intro x2 x3 mh hImh hFmh hba1 hbx2 hbx3 hg3 hg4 hRKNmh hRLTmh hM
      refine zw_eq (zu_rega_at (zt_T n) (zm_177 n) (zdp_177 n) _ _ _ _ _ _ (zr_177_51 n _ _ a0 a1 x2 x3 mh)) ?_
      refine zw_ite (fun h9 => ?_) (fun h9 => ?_)
      · exact zw_some ⟨hImh, hFmh, hRKNmh, hRLTmh, ⟨by omega, by omega⟩, ⟨by omega, by omega⟩⟩
      · have b10 : 0 ≤ x3 ∧ x3 < 36 := by omega
        refine zw_if b10 ?_
        have r11 : (-3) ≤ (mh 215 x3) ∧ (mh 215 x3) ≤ 3 := zi_rd hImh zq_215 (zb_124 _)
        refine zw_ite (fun h12 => ?_) (fun h12 => ?_)
        · have hM : (4 - 1) * 1 + (16 - x3) * 5 + 0 < (k : Int) := by omega
          exact ih.2.2 0 x3 1 mh hImh hFmh ⟨by omega, by omega⟩ ⟨by omega, by omega⟩ ⟨by omega, by omega⟩ ⟨by omega, by omega⟩ ⟨by omega, by omega⟩ ⟨by omega, by omega⟩ hRKNmh hRLTmh hM
        · have w13 := zu_w32_id (z := x3 + 1) (by omega) (by omega)
          have hM : (16 - (zu_w32 (x3 + 1))) * 5 + 4 < (k : Int) := by omega
          exact ih.2.1 x2 (zu_w32 (x3 + 1)) mh hImh hFmh ⟨by omega, by omega⟩ ⟨by omega, by omega⟩ ⟨by omega, by omega⟩ ⟨by omega, by omega⟩ ⟨by omega, by omega⟩ hRKNmh hRLTmh hM
    · intro x2 x3 x4 mh hImh hFmh hba1 hbx2 hbx3 hbx4 hg4 hg5 hRKNmh hRLTmh hM
      refine zw_eq (zu_rega_at (zt_T n) (zm_177 n) (zdp_177 n) _ _ _ _ _ _ (zr_177_73 n _ _ a0 a1 x2 x3 x4 mh)) ?_
      have r14 : 0 ≤ (mh a0 15) ∧ (mh a0 15) ≤ 4 := zi_rd hImh hc0 zb_28_15
      refine zw_ite (fun h15 => ?_) (fun h15 => ?_)
      · have b16 : 0 ≤ x2 ∧ x2 < 4 := by omega
        refine zw_if b16 ?_
        have r17 : (-2147483648) ≤ (mh 225 x2) ∧ (mh 225 x2) ≤ 2147483647 := zi_rd hImh zq_225 (zb_134 _)
        refine zw_bd (zw_mono (zk_132 n hImh hc0 ⟨by omega, by omega⟩ ⟨by omega, by omega⟩ hRKNmh hRLTmh) (fun v19 m18 hqm18 => ?_))
        obtain ⟨hIm18, hfm18, hvm18⟩ := hqm18
        have hFm18 := zfr_tr hFmh hfm18 rfl
        obtain ⟨hRKNm18, hRLTm18, hvm18⟩ := hvm18
        have w20 := zu_w32_rg ((mh 225 x2) + v19)
        have b21 : 0 ≤ x2 ∧ x2 < 4 := by omega
        refine zw_if b21 ?_
        generalize hmm22 : zu_up m18 225 x2 (zu_w32 ((mh 225 x2) + v19)) = m22
        have hIm22 := zi_up hmm22 hIm18 zq_225 (zb_134 _) (by omega) (by omega)
        have hFm22 := zfr_up hmm22 hFm18 zq_225 rfl
        have hRKNm22 := zR_KN_fr (zdis_fr (zfr_up hmm22 (zfr_rf [(134, 0)] _) zq_225 rfl) rfl) hRKNm18
        have hRLTm22 := zR_LT_fr (zdis_fr (zfr_up hmm22 (zfr_rf [(134, 0)] _) zq_225 rfl) rfl) hRLTm18
        have w23 := zu_w32_id (z := x3 + 1) (by omega) (by omega)
        have r24 : (-2147483648) ≤ (m22 a0 2) ∧ (m22 a0 2) ≤ 2147483647 := zi_rd hIm22 hc0 zb_28_2
        have e25 : (m22 a0 2) = (mh a0 2) := (Eq.trans (zs_ne hmm22 (Or.inl (zc_ne hc0 zq_225 (by decide)))) (zfr_ap hfm18 hc0 rfl))
        have r26 : 0 ≤ (m22 216 0) ∧ (m22 216 0) ≤ 16 := zi_rdr (m := 2) (r0 := 0) (r1 := 0) hIm22 zq_216 (by omega) (by decide +kernel)
        have e27 : (m22 216 0) = (mh 216 0) := (Eq.trans (zs_ne hmm22 (Or.inl (zc_ne zq_216 zq_225 (by decide)))) (zfr_ap hfm18 zq_216 rfl))
        have hM : (16 - (zu_w32 (x3 + 1))) * 5 + 4 < (k : Int) := by omega
        exact zw_le (zu_forget (zu_lr_same (zu_lr_same (zu_lr_same (zu_lr_same (zu_lr_drop zu_lr_nil)))))) (ih.2.1 x2 (zu_w32 (x3 + 1)) m22 hIm22 hFm22 ⟨by omega, by omega⟩ ⟨by omega, by omega⟩ ⟨by omega, by omega⟩ ⟨by omega, by omega⟩ ⟨by omega, by omega⟩ hRKNm22 hRLTm22 hM)
      · have b28 : 0 ≤ x4 ∧ x4 < 4 := by omega
        refine zw_if b28 ?_
        have r29 : (-2147483648) ≤ (mh 225 x4) ∧ (mh 225 x4) ≤ 2147483647 := zi_rd hImh zq_225 (zb_134 _)
        have b30 : 0 ≤ x2 ∧ x2 < 4 := by omega
        refine zw_if b30 ?_
        have r31 : (-2147483648) ≤ (mh 225 x2) ∧ (mh 225 x2) ≤ 2147483647 := zi_rd hImh zq_225 (zb_134 _)
        refine zw_ite (fun h32 => ?_) (fun h32 => ?_)
        · have w33 := zu_w32_id (z := x4 + 1) (by omega) (by omega)
          have hM : (4 - (zu_w32 (x4 + 1))) * 1 + (16 - x3) * 5 + 0 < (k : Int) := by omega
          exact ih.2.2 x2 x3 (zu_w32 (x4 + 1)) mh hImh hFmh ⟨by omega, by omega⟩ ⟨by omega, by omega⟩ ⟨by omega, by omega⟩ ⟨by omega, by omega⟩ ⟨by omega, by omega⟩ ⟨by omega, by omega⟩ hRKNmh hRLTmh hM
        · have w34 := zu_w32_id (z := x4 + 1) (by omega) (by omega)
          have hM : (4 - (zu_w32 (x4 + 1))) * 1 + (16 - x3) * 5 + 0 < (k : Int) := by omega
          exact ih.2.2 x4 x3 (zu_w32 (x4 + 1)) mh hImh hFmh ⟨by omega, by omega⟩ ⟨by omega, by omega⟩ ⟨by omega, by omega⟩ ⟨by omega, by omega⟩ ⟨by omega, by omega⟩ ⟨by omega, by omega⟩ hRKNmh hRLTmh hM
set_option maxHeartbeats 4000000 in
theorem zk_177 (n : Nat) {a0 a1 : Int} {m0 : zu_m} (hIm0 : zi_I m0) (hc0 : zcls a0 = 28) (ha1 : (-2147483648) ≤ a1 ∧ a1 ≤ 2147483647)    (hRKNm0 : zR_KN m0) (hRLTm0 : zR_LT m0) : zw (zu_call (zt_T n) 177 [(40, a0), (0, a1)] m0) (fun v m => zi_I m ∧ zfr [(28, 3), (28, 54), (122, 0), (123, 0), (134, 0)] m0 m ∧ zR_KN m ∧ zR_LT m ∧ ((-8) ≤ v ∧ v ≤ 3) ∧ (0 ≤ m a0 2 ∧ m a0 2 ≤ 0)) := by
  have hFm0 : zfr [(28, 3), (28, 54), (122, 0), (123, 0), (134, 0)] m0 m0 := zfr_rf _ _
  refine zw_eq (zu_call_at (zt_T n) (zm_177 n) (zdp_177 n) _ _ _ _ _ rfl (zr_177_0 n _ _ a0 a1 m0)) ?_
  generalize hmm35 : zu_up m0 a0 2 0 = m35
  have hIm35 := zi_up hmm35 hIm0 hc0 zb_28_2 (by omega) (by omega)
  have hFm35 := zfr_up hmm35 hFm0 hc0 rfl
  have hRKNm35 := zR_KN_fr (zdis_fr (zfr_up hmm35 (zfr_rf [(28, 3)] _) hc0 rfl) rfl) hRKNm0
  have hRLTm35 := zR_LT_fr (zdis_fr (zfr_up hmm35 (zfr_rf [(28, 3)] _) hc0 rfl) rfl) hRLTm0
  refine zw_bd (zw_eq (zu_call_at (zt_T n) (zm_124 n) (zdp_124 n) _ _ _ _ _ rfl (zr_124_0 n _ _ a0 a1 m35)) ?_)
  refine zw_ite (fun h36 => ?_) (fun h36 => ?_)
  · refine zw_b (by omega) ?_
    refine zw_some ?_
    refine zw_ite (fun h37 => ?_) (fun h37 => ?_)
    · exfalso; omega
    · have r38 : (-2147483648) ≤ (m35 a0 2) ∧ (m35 a0 2) ≤ 2147483647 := zi_rd hIm35 hc0 zb_28_2
      have e39 : (m35 a0 2) = 0 := (zs_eq hmm35)
      exact zw_some ⟨hIm35, hFm35, hRKNm35, hRLTm35, ⟨by decide, by decide⟩, ⟨by omega, by omega⟩⟩
  · have b40 : 0 ≤ (0 : Int) ∧ (0 : Int) < 2 := by omega
    refine zw_if b40 ?_
    have r41 : 0 ≤ (m35 216 0) ∧ (m35 216 0) ≤ 16 := zi_rdr (m := 2) (r0 := 0) (r1 := 0) hIm35 zq_216 (by omega) (by decide +kernel)
    refine zw_ite (fun h42 => ?_) (fun h42 => ?_)
    · refine zw_b (by omega) ?_
      refine zw_some ?_
      refine zw_ite (fun h43 => ?_) (fun h43 => ?_)
      · exfalso; omega
      · have r44 : (-2147483648) ≤ (m35 a0 2) ∧ (m35 a0 2) ≤ 2147483647 := zi_rd hIm35 hc0 zb_28_2
        have e45 : (m35 a0 2) = 0 := (zs_eq hmm35)
        exact zw_some ⟨hIm35, hFm35, hRKNm35, hRLTm35, ⟨by decide, by decide⟩, ⟨by omega, by omega⟩⟩
    · refine zw_b (by omega) ?_
      refine zw_some ?_
      refine zw_ite (fun h46 => ?_) (fun h46 => ?_)
      · have b47 : 0 ≤ a1 ∧ a1 < 36 := by omega
        refine zw_if b47 ?_
        have r48 : (-3) ≤ (m35 215 a1) ∧ (m35 215 a1) ≤ 3 := zi_rd hIm35 zq_215 (zb_124 _)
        refine zw_ite (fun h49 => ?_) (fun h49 => ?_)
        · have r50 : (-2147483648) ≤ (m35 a0 2) ∧ (m35 a0 2) ≤ 2147483647 := zi_rd hIm35 hc0 zb_28_2
          have e51 : (m35 a0 2) = 0 := (zs_eq hmm35)
          have hM : (4 - 0) * 1 + 85 < ((90 : Nat) : Int) := by omega
          exact (zl_177 n (m0 := m0) hc0 90).1 0 m35 hIm35 hFm35 ⟨by omega, by omega⟩ ⟨by omega, by omega⟩ ⟨by omega, by omega⟩ ⟨by omega, by omega⟩ hRKNm35 hRLTm35 hM
        · have r52 : (-2147483648) ≤ (m35 a0 2) ∧ (m35 a0 2) ≤ 2147483647 := zi_rd hIm35 hc0 zb_28_2
          have e53 : (m35 a0 2) = 0 := (zs_eq hmm35)
          exact zw_some ⟨hIm35, hFm35, hRKNm35, hRLTm35, ⟨by decide, by decide⟩, ⟨by omega, by omega⟩⟩
      · exfalso; omega
set_option maxHeartbeats 4000000 in
theorem zl_241 (n : Nat) {a0 a1 : Int} {m0 : zu_m} (hc0 : zcls a0 = 16)   : ∀ k : Nat, (∀ (x2 : Int) (mh : zu_m), zi_I mh → zfr [(56, 0), (59, 1), (59, 2), (59, 3), (59, 4), (59, 5), (59, 6), (59, 7)] m0 mh → (0 ≤ a1 ∧ a1 ≤ 3) → (0 ≤ x2 ∧ x2 ≤ 4) → (zR_K54 mh) → (4 - x2) * 5 + 4 < (k : Int) → zw (zu_ex (zt_T n) 241 2 [(27, a0), (0, a1), (0, x2), (2, 0), (2, 0)] [] mh) (fun v m => zi_I m ∧ zfr [(56, 0), (59, 1), (59, 2), (59, 3), (59, 4), (59, 5), (59, 6), (59, 7)] m0 m ∧ zR_K54 m ∧ ((-2) ≤ v ∧ v ≤ 15))) ∧ (∀ (x2 x3 : Int) (mh : zu_m), zi_I mh → zfr [(56, 0), (59, 1), (59, 2), (59, 3), (59, 4), (59, 5), (59, 6), (59, 7)] m0 mh → (0 ≤ a1 ∧ a1 ≤ 3) → (0 ≤ x2 ∧ x2 ≤ 3) → (1 ≤ x3 ∧ x3 ≤ 4) → (1 ≤ mh a0 4 ∧ mh a0 4 ≤ 4) → (zR_K54 mh) → (4 - x3) * 1 + (4 - x2) * 5 + 0 < (k : Int) → zw (zu_ex (zt_T n) 241 14 [(27, a0), (0, a1), (0, x2), (0, x3), (2, 0)] [] mh) (fun v m => zi_I m ∧ zfr [(56, 0), (59, 1), (59, 2), (59, 3), (59, 4), (59, 5), (59, 6), (59, 7)] m0 m ∧ zR_K54 m ∧ ((-2) ≤ v ∧ v ≤ 15))) := by
  intro k
  induction k with
  | zero => exact ⟨fun x2 mh hImh hFmh hba1 hbx2 hRK54mh hM => by exfalso; omega, fun x2 x3 mh hImh hFmh hba1 hbx2 hbx3 hg3 hRK54mh hM => by exfalso; omega⟩
  | succ k ih =>
    refine ⟨?_, ?_⟩
    · intro x2 mh hImh hFmh hba1 hbx2 hRK54mh hM
      refine zw_eq (zu_rega_at (zt_T n) (zm_241 n) (zdp_241 n) _ _ _ _ _ _ (zr_241_2 n _ _ a0 a1 x2 mh)) ?_
      have r1 : 0 ≤ (mh a0 4) ∧ (mh a0 4) ≤ 4 := zi_rd hImh hc0 zb_16_4
      refine zw_ite (fun h2 => ?_) (fun h2 => ?_)
      · exact zw_some ⟨hImh, hFmh, hRK54mh, ⟨by decide, by decide⟩⟩
      · have w3 := zu_w32_id (z := x2 + 1) (by omega) (by omega)
        have hM : (4 - (zu_w32 (x2 + 1))) * 1 + (4 - x2) * 5 + 0 < (k : Int) := by omega
        exact ih.2 x2 (zu_w32 (x2 + 1)) mh hImh hFmh ⟨by omega, by omega⟩ ⟨by omega, by omega⟩ ⟨by omega, by omega⟩ ⟨by omega, by omega⟩ hRK54mh hM
    · intro x2 x3 mh hImh hFmh hba1 hbx2 hbx3 hg3 hRK54mh hM
      refine zw_eq (zu_rega_at (zt_T n) (zm_241 n) (zdp_241 n) _ _ _ _ _ _ (zr_241_14 n _ _ a0 a1 x2 x3 mh)) ?_
      refine zw_ite (fun h4 => ?_) (fun h4 => ?_)
      · have w5 := zu_w32_id (z := x2 + 1) (by omega) (by omega)
        have hM : (4 - (zu_w32 (x2 + 1))) * 5 + 4 < (k : Int) := by omega
        exact zw_le (zu_forget (zu_lr_same (zu_lr_same (zu_lr_same (zu_lr_drop (zu_lr_same zu_lr_nil)))))) (ih.1 (zu_w32 (x2 + 1)) mh hImh hFmh ⟨by omega, by omega⟩ ⟨by omega, by omega⟩ hRK54mh hM)
      · refine zw_bd (zw_mono (zk_242 n hImh hc0 ⟨by omega, by omega⟩ ⟨by omega, by omega⟩ hRK54mh) (fun v7 m6 hqm6 => ?_))
        obtain ⟨hIm6, hfm6, hvm6⟩ := hqm6
        have hFm6 := zfr_tr hFmh hfm6 rfl
        obtain ⟨hRK54m6, hvm6⟩ := hvm6
        refine zw_ite (fun h8 => ?_) (fun h8 => ?_)
        · have w9 := zu_w32_id (z := x3 + 1) (by omega) (by omega)
          have r10 : 0 ≤ (m6 a0 4) ∧ (m6 a0 4) ≤ 4 := zi_rd hIm6 hc0 zb_16_4
          have e11 : (m6 a0 4) = (mh a0 4) := (zfr_ap hfm6 hc0 rfl)
          have hM : (4 - (zu_w32 (x3 + 1))) * 1 + (4 - x2) * 5 + 0 < (k : Int) := by omega
          exact zw_le (zu_forget (zu_lr_same (zu_lr_same (zu_lr_same (zu_lr_same (zu_lr_drop zu_lr_nil)))))) (ih.2 x2 (zu_w32 (x3 + 1)) m6 hIm6 hFm6 ⟨by omega, by omega⟩ ⟨by omega, by omega⟩ ⟨by omega, by omega⟩ ⟨by omega, by omega⟩ hRK54m6 hM)
        · refine zw_ite (fun h12 => ?_) (fun h12 => ?_)
          · exact zw_some ⟨hIm6, hFm6, hRK54m6, ⟨by omega, by omega⟩⟩
          · refine zw_ite (fun h13 => ?_) (fun h13 => ?_)
            · exact zw_some ⟨hIm6, hFm6, hRK54m6, ⟨by omega, by omega⟩⟩
            · refine zw_ite (fun h14 => ?_) (fun h14 => ?_)
              · refine zw_nif (by omega) ?_
                have d15 : Int.tdiv v7 16 = v7 / 16 := Int.tdiv_eq_ediv_of_nonneg (by omega)
                have w16 := zu_w32_id (z := Int.tdiv v7 16) (by omega) (by omega)
                exact zw_some ⟨hIm6, hFm6, hRK54m6, ⟨by omega, by omega⟩⟩
              · refine zw_nif (by omega) ?_
                have d17 : Int.tmod v7 16 = v7 % 16 := Int.tmod_eq_emod_of_nonneg (by omega)
                exact zw_some ⟨hIm6, hFm6, hRK54m6, ⟨by omega, by omega⟩⟩
set_option maxHeartbeats 4000000 in
theorem zk_241 (n : Nat) {a0 a1 : Int} {m0 : zu_m} (hIm0 : zi_I m0) (hc0 : zcls a0 = 16) (ha1 : 0 ≤ a1 ∧ a1 ≤ 3)    (hRK54m0 : zR_K54 m0) : zw (zu_call (zt_T n) 241 [(27, a0), (0, a1)] m0) (fun v m => zi_I m ∧ zfr [(56, 0), (59, 1), (59, 2), (59, 3), (59, 4), (59, 5), (59, 6), (59, 7)] m0 m ∧ zR_K54 m ∧ ((-2) ≤ v ∧ v ≤ 15)) := by
  have hFm0 : zfr [(56, 0), (59, 1), (59, 2), (59, 3), (59, 4), (59, 5), (59, 6), (59, 7)] m0 m0 := zfr_rf _ _
  refine zw_eq (zu_call_at (zt_T n) (zm_241 n) (zdp_241 n) _ _ _ _ _ rfl (zr_241_0 n _ _ a0 a1 m0)) ?_
  have hM : (4 - 0) * 5 + 4 < ((25 : Nat) : Int) := by omega
  exact (zl_241 n (m0 := m0) hc0 25).1 0 m0 hIm0 hFm0 ⟨by omega, by omega⟩ ⟨by omega, by omega⟩ hRK54m0 hM
set_option maxHeartbeats 4000000 in
theorem zk_258 (n : Nat) {a0 : Int} {m0 : zu_m} (hIm0 : zi_I m0) (hc0 : zcls a0 = 3)   (he0 : 1 ≤ m0 45 4 ∧ m0 45 4 ≤ 5)  (hRBNm0 : zR_BN m0) (hRCTm0 : (m0 5 6 = 0 → m0 19 4 = 0)) (hRE19m0 : zE m0 19 6) (hRG6m0 : (m0 6 2 = m0 6 0 * m0 6 1)) (hRK10m0 : zR_K10 m0) : zw (zu_call (zt_T n) 258 [(7, a0)] m0) (fun v m => zi_I m ∧ zfr [(3, 5), (3, 6), (3, 7), (3, 8), (3, 9), (3, 10), (3, 11), (4, 1), (4, 2), (4, 3), (4, 4), (4, 5), (4, 6), (5, 6), (5, 7), (6, 3), (6, 5), (6, 11), (6, 12), (7, 1), (7, 2), (7, 3), (7, 4), (8, 1), (8, 2), (8, 3), (8, 4), (8, 5), (8, 6), (8, 7), (9, 4), (9, 5), (9, 6), (9, 7), (10, 4), (10, 5), (10, 7), (10, 8), (30, 0), (31, 0), (32, 0), (33, 0), (34, 0), (35, 0), (36, 0), (47, 0), (48, 0)] m0 m ∧ zR_BN m ∧ (m 5 6 = 0 → m 19 4 = 0) ∧ zE m 19 6 ∧ (m 6 2 = m 6 0 * m 6 1) ∧ zR_K10 m ∧ (0 ≤ v ∧ v ≤ 1)) := by
  have hFm0 : zfr [(3, 5), (3, 6), (3, 7), (3, 8), (3, 9), (3, 10), (3, 11), (4, 1), (4, 2), (4, 3), (4, 4), (4, 5), (4, 6), (5, 6), (5, 7), (6, 3), (6, 5), (6, 11), (6, 12), (7, 1), (7, 2), (7, 3), (7, 4), (8, 1), (8, 2), (8, 3), (8, 4), (8, 5), (8, 6), (8, 7), (9, 4), (9, 5), (9, 6), (9, 7), (10, 4), (10, 5), (10, 7), (10, 8), (30, 0), (31, 0), (32, 0), (33, 0), (34, 0), (35, 0), (36, 0), (47, 0), (48, 0)] m0 m0 := zfr_rf _ _
  refine zw_eq (zu_call_at (zt_T n) (zm_258 n) (zdp_258 n) _ _ _ _ _ rfl (zr_258_0 n _ _ a0 m0)) ?_
  refine zw_bd (zw_eq (zu_call_at (zt_T n) (zm_279 n) (zdp_279 n) _ _ _ _ _ rfl (zr_279_0 n _ _ 45 0 12 m0)) ?_)
  refine zw_ite (fun h1 => ?_) (fun h1 => ?_)
  · refine zw_b (by omega) ?_
    refine zw_some ?_
    refine zw_ite (fun h2 => ?_) (fun h2 => ?_)
    · exfalso; omega
    · refine zw_bd (zw_eq (zu_call_at (zt_T n) (zm_257 n) (zdp_257 n) _ _ _ _ _ rfl (zr_257_0 n _ _ a0 1 m0)) ?_)
      generalize hmm3 : zu_up m0 a0 9 1 = m3
      have hIm3 := zi_up hmm3 hIm0 hc0 zb_3_9 (by omega) (by omega)
      have hFm3 := zfr_up hmm3 hFm0 hc0 rfl
      have hRBNm3 := zR_BN_fr (zdis_fr (zfr_up hmm3 (zfr_rf [(3, 10)] _) hc0 rfl) rfl) hRBNm0
      have hRCTm3 := zR_CT_fr (zdis_fr (zfr_up hmm3 (zfr_rf [(3, 10)] _) hc0 rfl) rfl) hRCTm0
      have hRE19m3 := zR_E19_fr (zdis_fr (zfr_up hmm3 (zfr_rf [(3, 10)] _) hc0 rfl) rfl) hRE19m0
      have hRG6m3 := zR_G6_fr (zdis_fr (zfr_up hmm3 (zfr_rf [(3, 10)] _) hc0 rfl) rfl) hRG6m0
      have hRK10m3 := zR_K10_fr (zdis_fr (zfr_up hmm3 (zfr_rf [(3, 10)] _) hc0 rfl) rfl) hRK10m0
      have r4 : 0 ≤ (m3 45 6) ∧ (m3 45 6) ≤ 700 := zi_rd hIm3 zq_45 zb_9_6
      generalize hmm5 : zu_up m3 a0 10 (m3 45 6) = m5
      have hIm5 := zi_up hmm5 hIm3 hc0 zb_3_10 (by omega) (by omega)
      have hFm5 := zfr_up hmm5 hFm3 hc0 rfl
      have hRBNm5 := zR_BN_fr (zdis_fr (zfr_up hmm5 (zfr_rf [(3, 11)] _) hc0 rfl) rfl) hRBNm3
      have hRCTm5 := zR_CT_fr (zdis_fr (zfr_up hmm5 (zfr_rf [(3, 11)] _) hc0 rfl) rfl) hRCTm3
      have hRE19m5 := zR_E19_fr (zdis_fr (zfr_up hmm5 (zfr_rf [(3, 11)] _) hc0 rfl) rfl) hRE19m3
      have hRG6m5 := zR_G6_fr (zdis_fr (zfr_up hmm5 (zfr_rf [(3, 11)] _) hc0 rfl) rfl) hRG6m3
      have hRK10m5 := zR_K10_fr (zdis_fr (zfr_up hmm5 (zfr_rf [(3, 11)] _) hc0 rfl) rfl) hRK10m3
      refine zw_b (by omega) ?_
      refine zw_some ?_
      refine zw_b (by omega) ?_
      exact zw_some ⟨hIm5, hFm5, hRBNm5, hRCTm5, hRE19m5, hRG6m5, hRK10m5, ⟨by decide, by decide⟩⟩
  · have r6 : (-2147483648) ≤ (m0 45 5) ∧ (m0 45 5) ≤ 2147483647 := zi_rd hIm0 zq_45 zb_9_5
    refine zw_ite (fun h7 => ?_) (fun h7 => ?_)
    · refine zw_b (by omega) ?_
      refine zw_some ?_
      refine zw_ite (fun h8 => ?_) (fun h8 => ?_)
      · exfalso; omega
      · refine zw_bd (zw_eq (zu_call_at (zt_T n) (zm_257 n) (zdp_257 n) _ _ _ _ _ rfl (zr_257_0 n _ _ a0 1 m0)) ?_)
        generalize hmm9 : zu_up m0 a0 9 1 = m9
        have hIm9 := zi_up hmm9 hIm0 hc0 zb_3_9 (by omega) (by omega)
        have hFm9 := zfr_up hmm9 hFm0 hc0 rfl
        have hRBNm9 := zR_BN_fr (zdis_fr (zfr_up hmm9 (zfr_rf [(3, 10)] _) hc0 rfl) rfl) hRBNm0
        have hRCTm9 := zR_CT_fr (zdis_fr (zfr_up hmm9 (zfr_rf [(3, 10)] _) hc0 rfl) rfl) hRCTm0
        have hRE19m9 := zR_E19_fr (zdis_fr (zfr_up hmm9 (zfr_rf [(3, 10)] _) hc0 rfl) rfl) hRE19m0
        have hRG6m9 := zR_G6_fr (zdis_fr (zfr_up hmm9 (zfr_rf [(3, 10)] _) hc0 rfl) rfl) hRG6m0
        have hRK10m9 := zR_K10_fr (zdis_fr (zfr_up hmm9 (zfr_rf [(3, 10)] _) hc0 rfl) rfl) hRK10m0
        have r10 : 0 ≤ (m9 45 6) ∧ (m9 45 6) ≤ 700 := zi_rd hIm9 zq_45 zb_9_6
        generalize hmm11 : zu_up m9 a0 10 (m9 45 6) = m11
        have hIm11 := zi_up hmm11 hIm9 hc0 zb_3_10 (by omega) (by omega)
        have hFm11 := zfr_up hmm11 hFm9 hc0 rfl
        have hRBNm11 := zR_BN_fr (zdis_fr (zfr_up hmm11 (zfr_rf [(3, 11)] _) hc0 rfl) rfl) hRBNm9
        have hRCTm11 := zR_CT_fr (zdis_fr (zfr_up hmm11 (zfr_rf [(3, 11)] _) hc0 rfl) rfl) hRCTm9
        have hRE19m11 := zR_E19_fr (zdis_fr (zfr_up hmm11 (zfr_rf [(3, 11)] _) hc0 rfl) rfl) hRE19m9
        have hRG6m11 := zR_G6_fr (zdis_fr (zfr_up hmm11 (zfr_rf [(3, 11)] _) hc0 rfl) rfl) hRG6m9
        have hRK10m11 := zR_K10_fr (zdis_fr (zfr_up hmm11 (zfr_rf [(3, 11)] _) hc0 rfl) rfl) hRK10m9
        refine zw_b (by omega) ?_
        refine zw_some ?_
        refine zw_b (by omega) ?_
        exact zw_some ⟨hIm11, hFm11, hRBNm11, hRCTm11, hRE19m11, hRG6m11, hRK10m11, ⟨by decide, by decide⟩⟩
    · have w12 := zu_w32_id (z := 0 + 12) (by omega) (by omega)
      refine zw_ite (fun h13 => ?_) (fun h13 => ?_)
      · refine zw_b (by omega) ?_
        refine zw_some ?_
        refine zw_ite (fun h14 => ?_) (fun h14 => ?_)
        · exfalso; omega
        · refine zw_bd (zw_eq (zu_call_at (zt_T n) (zm_257 n) (zdp_257 n) _ _ _ _ _ rfl (zr_257_0 n _ _ a0 1 m0)) ?_)
          generalize hmm15 : zu_up m0 a0 9 1 = m15
          have hIm15 := zi_up hmm15 hIm0 hc0 zb_3_9 (by omega) (by omega)
          have hFm15 := zfr_up hmm15 hFm0 hc0 rfl
          have hRBNm15 := zR_BN_fr (zdis_fr (zfr_up hmm15 (zfr_rf [(3, 10)] _) hc0 rfl) rfl) hRBNm0
          have hRCTm15 := zR_CT_fr (zdis_fr (zfr_up hmm15 (zfr_rf [(3, 10)] _) hc0 rfl) rfl) hRCTm0
          have hRE19m15 := zR_E19_fr (zdis_fr (zfr_up hmm15 (zfr_rf [(3, 10)] _) hc0 rfl) rfl) hRE19m0
          have hRG6m15 := zR_G6_fr (zdis_fr (zfr_up hmm15 (zfr_rf [(3, 10)] _) hc0 rfl) rfl) hRG6m0
          have hRK10m15 := zR_K10_fr (zdis_fr (zfr_up hmm15 (zfr_rf [(3, 10)] _) hc0 rfl) rfl) hRK10m0
          have r16 : 0 ≤ (m15 45 6) ∧ (m15 45 6) ≤ 700 := zi_rd hIm15 zq_45 zb_9_6
          generalize hmm17 : zu_up m15 a0 10 (m15 45 6) = m17
          have hIm17 := zi_up hmm17 hIm15 hc0 zb_3_10 (by omega) (by omega)
          have hFm17 := zfr_up hmm17 hFm15 hc0 rfl
          have hRBNm17 := zR_BN_fr (zdis_fr (zfr_up hmm17 (zfr_rf [(3, 11)] _) hc0 rfl) rfl) hRBNm15
          have hRCTm17 := zR_CT_fr (zdis_fr (zfr_up hmm17 (zfr_rf [(3, 11)] _) hc0 rfl) rfl) hRCTm15
          have hRE19m17 := zR_E19_fr (zdis_fr (zfr_up hmm17 (zfr_rf [(3, 11)] _) hc0 rfl) rfl) hRE19m15
          have hRG6m17 := zR_G6_fr (zdis_fr (zfr_up hmm17 (zfr_rf [(3, 11)] _) hc0 rfl) rfl) hRG6m15
          have hRK10m17 := zR_K10_fr (zdis_fr (zfr_up hmm17 (zfr_rf [(3, 11)] _) hc0 rfl) rfl) hRK10m15
          refine zw_b (by omega) ?_
          refine zw_some ?_
          refine zw_b (by omega) ?_
          exact zw_some ⟨hIm17, hFm17, hRBNm17, hRCTm17, hRE19m17, hRG6m17, hRK10m17, ⟨by decide, by decide⟩⟩
      · refine zw_b (by omega) ?_
        refine zw_some ?_
        refine zw_ite (fun h18 => ?_) (fun h18 => ?_)
        · refine zw_ite (fun h19 => ?_) (fun h19 => ?_)
          · refine zw_bd (zw_mono (zk_264 n hIm0 hc0 hRCTm0 hRE19m0 hRG6m0) (fun v21 m20 hqm20 => ?_))
            obtain ⟨hIm20, hfm20, hvm20⟩ := hqm20
            have hFm20 := zfr_tr hFm0 hfm20 rfl
            obtain ⟨hRCTm20, hRE19m20, hRG6m20, hvm20⟩ := hvm20
            have hRBNm20 := zR_BN_fr (zdis_fr hfm20 rfl) hRBNm0
            have hRK10m20 := zR_K10_fr (zdis_fr hfm20 rfl) hRK10m0
            refine zw_ite (fun h22 => ?_) (fun h22 => ?_)
            · refine zw_b (by omega) ?_
              exact zw_some ⟨hIm20, hFm20, hRBNm20, hRCTm20, hRE19m20, hRG6m20, hRK10m20, ⟨by decide, by decide⟩⟩
            · refine zw_bd (zw_mono (zk_259 n hIm20 hc0) (fun v24 m23 hqm23 => ?_))
              obtain ⟨hIm23, hfm23, hvm23⟩ := hqm23
              have hFm23 := zfr_tr hFm20 hfm23 rfl
              obtain ⟨hRTVm23, hvm23⟩ := hvm23
              have hRBNm23 := zR_BN_fr (zdis_fr hfm23 rfl) hRBNm20
              have hRCTm23 := zR_CT_fr (zdis_fr hfm23 rfl) hRCTm20
              have hRE19m23 := zR_E19_fr (zdis_fr hfm23 rfl) hRE19m20
              have hRG6m23 := zR_G6_fr (zdis_fr hfm23 rfl) hRG6m20
              have hRK10m23 := zR_K10_fr (zdis_fr hfm23 rfl) hRK10m20
              have s25 := hRTVm23 45 zq_45
              refine zw_ite (fun h26 => ?_) (fun h26 => ?_)
              · refine zw_b (by omega) ?_
                exact zw_some ⟨hIm23, hFm23, hRBNm23, hRCTm23, hRE19m23, hRG6m23, hRK10m23, ⟨by decide, by decide⟩⟩
              · refine zw_b (by omega) ?_
                exact zw_some ⟨hIm23, hFm23, hRBNm23, hRCTm23, hRE19m23, hRG6m23, hRK10m23, ⟨by decide, by decide⟩⟩
          · refine zw_ite (fun h27 => ?_) (fun h27 => ?_)
            · refine zw_bd (zw_mono (zk_266 n hIm0 hc0 ⟨by omega, by omega⟩ ⟨by omega, by omega⟩ hRCTm0) (fun v29 m28 hqm28 => ?_))
              obtain ⟨hIm28, hfm28, hvm28⟩ := hqm28
              have hFm28 := zfr_tr hFm0 hfm28 rfl
              obtain ⟨hRCTm28, hvm28⟩ := hvm28
              have hRBNm28 := zR_BN_fr (zdis_fr hfm28 rfl) hRBNm0
              have hRE19m28 := zR_E19_fr (zdis_fr hfm28 rfl) hRE19m0
              have hRG6m28 := zR_G6_fr (zdis_fr hfm28 rfl) hRG6m0
              have hRK10m28 := zR_K10_fr (zdis_fr hfm28 rfl) hRK10m0
              refine zw_ite (fun h30 => ?_) (fun h30 => ?_)
              · refine zw_b (by omega) ?_
                exact zw_some ⟨hIm28, hFm28, hRBNm28, hRCTm28, hRE19m28, hRG6m28, hRK10m28, ⟨by decide, by decide⟩⟩
              · refine zw_bd (zw_mono (zk_259 n hIm28 hc0) (fun v32 m31 hqm31 => ?_))
                obtain ⟨hIm31, hfm31, hvm31⟩ := hqm31
                have hFm31 := zfr_tr hFm28 hfm31 rfl
                obtain ⟨hRTVm31, hvm31⟩ := hvm31
                have hRBNm31 := zR_BN_fr (zdis_fr hfm31 rfl) hRBNm28
                have hRCTm31 := zR_CT_fr (zdis_fr hfm31 rfl) hRCTm28
                have hRE19m31 := zR_E19_fr (zdis_fr hfm31 rfl) hRE19m28
                have hRG6m31 := zR_G6_fr (zdis_fr hfm31 rfl) hRG6m28
                have hRK10m31 := zR_K10_fr (zdis_fr hfm31 rfl) hRK10m28
                have s33 := hRTVm31 45 zq_45
                refine zw_ite (fun h34 => ?_) (fun h34 => ?_)
                · refine zw_b (by omega) ?_
                  exact zw_some ⟨hIm31, hFm31, hRBNm31, hRCTm31, hRE19m31, hRG6m31, hRK10m31, ⟨by decide, by decide⟩⟩
                · refine zw_b (by omega) ?_
                  exact zw_some ⟨hIm31, hFm31, hRBNm31, hRCTm31, hRE19m31, hRG6m31, hRK10m31, ⟨by decide, by decide⟩⟩
            · refine zw_ite (fun h35 => ?_) (fun h35 => ?_)
              · refine zw_bd (zw_mono (zk_267 n hIm0 hc0 ⟨by omega, by omega⟩ ⟨by omega, by omega⟩ hRCTm0 hRE19m0 hRG6m0) (fun v37 m36 hqm36 => ?_))
                obtain ⟨hIm36, hfm36, hvm36⟩ := hqm36
                have hFm36 := zfr_tr hFm0 hfm36 rfl
                obtain ⟨hRCTm36, hRE19m36, hRG6m36, hvm36⟩ := hvm36
                have hRBNm36 := zR_BN_fr (zdis_fr hfm36 rfl) hRBNm0
                have hRK10m36 := zR_K10_fr (zdis_fr hfm36 rfl) hRK10m0
                refine zw_ite (fun h38 => ?_) (fun h38 => ?_)
                · refine zw_b (by omega) ?_
                  exact zw_some ⟨hIm36, hFm36, hRBNm36, hRCTm36, hRE19m36, hRG6m36, hRK10m36, ⟨by decide, by decide⟩⟩
                · refine zw_bd (zw_mono (zk_259 n hIm36 hc0) (fun v40 m39 hqm39 => ?_))
                  obtain ⟨hIm39, hfm39, hvm39⟩ := hqm39
                  have hFm39 := zfr_tr hFm36 hfm39 rfl
                  obtain ⟨hRTVm39, hvm39⟩ := hvm39
                  have hRBNm39 := zR_BN_fr (zdis_fr hfm39 rfl) hRBNm36
                  have hRCTm39 := zR_CT_fr (zdis_fr hfm39 rfl) hRCTm36
                  have hRE19m39 := zR_E19_fr (zdis_fr hfm39 rfl) hRE19m36
                  have hRG6m39 := zR_G6_fr (zdis_fr hfm39 rfl) hRG6m36
                  have hRK10m39 := zR_K10_fr (zdis_fr hfm39 rfl) hRK10m36
                  have s41 := hRTVm39 45 zq_45
                  refine zw_ite (fun h42 => ?_) (fun h42 => ?_)
                  · refine zw_b (by omega) ?_
                    exact zw_some ⟨hIm39, hFm39, hRBNm39, hRCTm39, hRE19m39, hRG6m39, hRK10m39, ⟨by decide, by decide⟩⟩
                  · refine zw_b (by omega) ?_
                    exact zw_some ⟨hIm39, hFm39, hRBNm39, hRCTm39, hRE19m39, hRG6m39, hRK10m39, ⟨by decide, by decide⟩⟩
              · refine zw_ite (fun h43 => ?_) (fun h43 => ?_)
                · refine zw_bd (zw_mono (zk_270 n hIm0 hc0 ⟨by omega, by omega⟩ ⟨by omega, by omega⟩ hRBNm0 hRK10m0) (fun v45 m44 hqm44 => ?_))
                  obtain ⟨hIm44, hfm44, hvm44⟩ := hqm44
                  have hFm44 := zfr_tr hFm0 hfm44 rfl
                  obtain ⟨hRBNm44, hRK10m44, hvm44⟩ := hvm44
                  have hRCTm44 := zR_CT_fr (zdis_fr hfm44 rfl) hRCTm0
                  have hRE19m44 := zR_E19_fr (zdis_fr hfm44 rfl) hRE19m0
                  have hRG6m44 := zR_G6_fr (zdis_fr hfm44 rfl) hRG6m0
                  refine zw_b (by omega) ?_
                  exact zw_some ⟨hIm44, hFm44, hRBNm44, hRCTm44, hRE19m44, hRG6m44, hRK10m44, ⟨by omega, by omega⟩⟩
                · refine zw_ite (fun h46 => ?_) (fun h46 => ?_)
                  · refine zw_bd (zw_mono (zk_268 n hIm0 hc0 ⟨by omega, by omega⟩) (fun v48 m47 hqm47 => ?_))
                    obtain ⟨hIm47, hfm47, hvm47⟩ := hqm47
                    have hFm47 := zfr_tr hFm0 hfm47 rfl
                    have hRBNm47 := zR_BN_fr (zdis_fr hfm47 rfl) hRBNm0
                    have hRCTm47 := zR_CT_fr (zdis_fr hfm47 rfl) hRCTm0
                    have hRE19m47 := zR_E19_fr (zdis_fr hfm47 rfl) hRE19m0
                    have hRG6m47 := zR_G6_fr (zdis_fr hfm47 rfl) hRG6m0
                    have hRK10m47 := zR_K10_fr (zdis_fr hfm47 rfl) hRK10m0
                    refine zw_ite (fun h49 => ?_) (fun h49 => ?_)
                    · refine zw_b (by omega) ?_
                      exact zw_some ⟨hIm47, hFm47, hRBNm47, hRCTm47, hRE19m47, hRG6m47, hRK10m47, ⟨by decide, by decide⟩⟩
                    · refine zw_bd (zw_mono (zk_259 n hIm47 hc0) (fun v51 m50 hqm50 => ?_))
                      obtain ⟨hIm50, hfm50, hvm50⟩ := hqm50
                      have hFm50 := zfr_tr hFm47 hfm50 rfl
                      obtain ⟨hRTVm50, hvm50⟩ := hvm50
                      have hRBNm50 := zR_BN_fr (zdis_fr hfm50 rfl) hRBNm47
                      have hRCTm50 := zR_CT_fr (zdis_fr hfm50 rfl) hRCTm47
                      have hRE19m50 := zR_E19_fr (zdis_fr hfm50 rfl) hRE19m47
                      have hRG6m50 := zR_G6_fr (zdis_fr hfm50 rfl) hRG6m47
                      have hRK10m50 := zR_K10_fr (zdis_fr hfm50 rfl) hRK10m47
                      have s52 := hRTVm50 45 zq_45
                      refine zw_ite (fun h53 => ?_) (fun h53 => ?_)
                      · refine zw_b (by omega) ?_
                        exact zw_some ⟨hIm50, hFm50, hRBNm50, hRCTm50, hRE19m50, hRG6m50, hRK10m50, ⟨by decide, by decide⟩⟩
                      · refine zw_b (by omega) ?_
                        exact zw_some ⟨hIm50, hFm50, hRBNm50, hRCTm50, hRE19m50, hRG6m50, hRK10m50, ⟨by decide, by decide⟩⟩
                  · refine zw_bd (zw_mono (zk_265 n hIm0 hc0 ⟨by omega, by omega⟩ hRCTm0) (fun v55 m54 hqm54 => ?_))
                    obtain ⟨hIm54, hfm54, hvm54⟩ := hqm54
                    have hFm54 := zfr_tr hFm0 hfm54 rfl
                    obtain ⟨hRCTm54, hvm54⟩ := hvm54
                    have hRBNm54 := zR_BN_fr (zdis_fr hfm54 rfl) hRBNm0
                    have hRE19m54 := zR_E19_fr (zdis_fr hfm54 rfl) hRE19m0
                    have hRG6m54 := zR_G6_fr (zdis_fr hfm54 rfl) hRG6m0
                    have hRK10m54 := zR_K10_fr (zdis_fr hfm54 rfl) hRK10m0
                    refine zw_ite (fun h56 => ?_) (fun h56 => ?_)
                    · refine zw_b (by omega) ?_
                      exact zw_some ⟨hIm54, hFm54, hRBNm54, hRCTm54, hRE19m54, hRG6m54, hRK10m54, ⟨by decide, by decide⟩⟩
                    · refine zw_bd (zw_mono (zk_259 n hIm54 hc0) (fun v58 m57 hqm57 => ?_))
                      obtain ⟨hIm57, hfm57, hvm57⟩ := hqm57
                      have hFm57 := zfr_tr hFm54 hfm57 rfl
                      obtain ⟨hRTVm57, hvm57⟩ := hvm57
                      have hRBNm57 := zR_BN_fr (zdis_fr hfm57 rfl) hRBNm54
                      have hRCTm57 := zR_CT_fr (zdis_fr hfm57 rfl) hRCTm54
                      have hRE19m57 := zR_E19_fr (zdis_fr hfm57 rfl) hRE19m54
                      have hRG6m57 := zR_G6_fr (zdis_fr hfm57 rfl) hRG6m54
                      have hRK10m57 := zR_K10_fr (zdis_fr hfm57 rfl) hRK10m54
                      have s59 := hRTVm57 45 zq_45
                      refine zw_ite (fun h60 => ?_) (fun h60 => ?_)
                      · refine zw_b (by omega) ?_
                        exact zw_some ⟨hIm57, hFm57, hRBNm57, hRCTm57, hRE19m57, hRG6m57, hRK10m57, ⟨by decide, by decide⟩⟩
                      · refine zw_b (by omega) ?_
                        exact zw_some ⟨hIm57, hFm57, hRBNm57, hRCTm57, hRE19m57, hRG6m57, hRK10m57, ⟨by decide, by decide⟩⟩
        · exfalso; omega
set_option maxHeartbeats 4000000 in
theorem zl_286 (n : Nat) {a0 a1 : Int} {m0 : zu_m} (hc0 : zcls a0 = 24)   : ∀ k : Nat, (∀ (x2 : Int) (mh : zu_m), zi_I mh → zfr [(24, 7), (25, 3), (25, 5), (25, 9), (25, 10), (25, 11), (25, 12), (26, 1), (26, 2), (26, 3), (26, 4), (27, 1), (27, 2), (27, 3), (27, 4), (27, 5), (27, 6), (27, 7), (27, 8), (56, 0), (59, 1), (59, 2), (59, 3), (59, 4), (59, 5), (59, 6), (59, 7), (85, 0), (97, 0), (98, 0)] m0 mh → (1 ≤ a1 ∧ a1 ≤ 40) → (0 ≤ x2 ∧ x2 ≤ 47) → ((mh a0 6) ≤ 4 * x2 + 1) → ((mh 164 8) ≤ (mh 164 11) → (mh a0 6) ≤ 4 * x2) → ((mh 164 8) ≤ 9999 + x2) → (zE mh 164 50) → (zE mh 89 50) → (zgeo mh 50) → (zR_K54 mh) → (47 - x2) * 6 + 5 < (k : Int) → zw (zu_ex (zt_T n) 286 18 [(33, a0), (0, a1), (0, x2), (2, 0)] [] mh) (fun v m => zi_I m ∧ zfr [(24, 7), (25, 3), (25, 5), (25, 9), (25, 10), (25, 11), (25, 12), (26, 1), (26, 2), (26, 3), (26, 4), (27, 1), (27, 2), (27, 3), (27, 4), (27, 5), (27, 6), (27, 7), (27, 8), (56, 0), (59, 1), (59, 2), (59, 3), (59, 4), (59, 5), (59, 6), (59, 7), (85, 0), (97, 0), (98, 0)] m0 m ∧ zE m 164 50 ∧ zE m 89 50 ∧ zgeo m 50 ∧ zR_K54 m ∧ True)) ∧ (∀ (x2 x3 : Int) (mh : zu_m), zi_I mh → zfr [(24, 7), (25, 3), (25, 5), (25, 9), (25, 10), (25, 11), (25, 12), (26, 1), (26, 2), (26, 3), (26, 4), (27, 1), (27, 2), (27, 3), (27, 4), (27, 5), (27, 6), (27, 7), (27, 8), (56, 0), (59, 1), (59, 2), (59, 3), (59, 4), (59, 5), (59, 6), (59, 7), (85, 0), (97, 0), (98, 0)] m0 mh → (1 ≤ a1 ∧ a1 ≤ 40) → (0 ≤ x2 ∧ x2 ≤ 40) → (0 ≤ x3 ∧ x3 ≤ 4) → ((mh a0 6) ≤ 4 * x2 + 1 + x3) → ((mh 164 8) ≤ (mh 164 11) → (mh a0 6) ≤ 4 * x2 + x3) → ((mh 164 8) ≤ 9999 + x2) → (x2 ≤ 39) → (zE mh 164 50) → (zE mh 89 50) → (zgeo mh 50) → (zR_K54 mh) → (4 - x3) * 1 + (47 - x2) * 6 + 0 < (k : Int) → zw (zu_ex (zt_T n) 286 31 [(33, a0), (0, a1), (0, x2), (0, x3)] [] mh) (fun v m => zi_I m ∧ zfr [(24, 7), (25, 3), (25, 5), (25, 9), (25, 10), (25, 11), (25, 12), (26, 1), (26, 2), (26, 3), (26, 4), (27, 1), (27, 2), (27, 3), (27, 4), (27, 5), (27, 6), (27, 7), (27, 8), (56, 0), (59, 1), (59, 2), (59, 3), (59, 4), (59, 5), (59, 6), (59, 7), (85, 0), (97, 0), (98, 0)] m0 m ∧ zE m 164 50 ∧ zE m 89 50 ∧ zgeo m 50 ∧ zR_K54 m ∧ True)) := by
  intro k
  induction k with
  | zero => exact ⟨fun x2 mh hImh hFmh hba1 hbx2 hH0 hH1 hH2 hRE164mh hRE89mh hRG5mh hRK54mh hM => by exfalso; omega, fun x2 x3 mh hImh hFmh hba1 hbx2 hbx3 hH0 hH1 hH2 hH3 hRE164mh hRE89mh hRG5mh hRK54mh hM => by exfalso; omega⟩
  | succ k ih =>
    refine ⟨?_, ?_⟩
    · intro x2 mh hImh hFmh hba1 hbx2 hH0 hH1 hH2 hRE164mh hRE89mh hRG5mh hRK54mh hM
      refine zw_eq (zu_rega_at (zt_T n) (zm_286 n) (zdp_286 n) _ _ _ _ _ _ (zr_286_18 n _ _ a0 a1 x2 mh)) ?_
      have r1 : 0 ≤ (mh a0 6) ∧ (mh a0 6) ≤ 161 := zi_rd hImh hc0 zb_24_6
      have r2 : 0 ≤ (mh 164 8) ∧ (mh 164 8) ≤ 20000 := zi_rd hImh zq_164 zb_25_8
      have r3 : (-2147483648) ≤ (mh 164 11) ∧ (mh 164 11) ≤ 2147483647 := zi_rd hImh zq_164 zb_25_11
      refine zw_ite (fun h4 => ?_) (fun h4 => ?_)
      · exact zw_some ⟨hImh, hFmh, hRE164mh, hRE89mh, hRG5mh, hRK54mh, trivial⟩
      · refine zw_ite (fun h5 => ?_) (fun h5 => ?_)
        · exfalso; omega
        · have hM : (4 - 0) * 1 + (47 - x2) * 6 + 0 < (k : Int) := by omega
          exact ih.2 x2 0 mh hImh hFmh ⟨by omega, by omega⟩ ⟨by omega, by omega⟩ ⟨by omega, by omega⟩ (by omega) (by omega) (by omega) (by omega) hRE164mh hRE89mh hRG5mh hRK54mh hM
    · intro x2 x3 mh hImh hFmh hba1 hbx2 hbx3 hH0 hH1 hH2 hH3 hRE164mh hRE89mh hRG5mh hRK54mh hM
      refine zw_eq (zu_rega_at (zt_T n) (zm_286 n) (zdp_286 n) _ _ _ _ _ _ (zr_286_31 n _ _ a0 a1 x2 x3 mh)) ?_
      have r6 : 0 ≤ (mh a0 6) ∧ (mh a0 6) ≤ 161 := zi_rd hImh hc0 zb_24_6
      have r7 : 0 ≤ (mh 164 8) ∧ (mh 164 8) ≤ 20000 := zi_rd hImh zq_164 zb_25_8
      have r8 : (-2147483648) ≤ (mh 164 11) ∧ (mh 164 11) ≤ 2147483647 := zi_rd hImh zq_164 zb_25_11
      have r9 : 0 ≤ (mh 164 4) ∧ (mh 164 4) ≤ 4 := zi_rd hImh zq_164 zb_25_4
      refine zw_ite (fun h10 => ?_) (fun h10 => ?_)
      · refine zw_ite (fun h11 => ?_) (fun h11 => ?_)
        · refine zw_bd (zw_mono (zk_214_25 n hImh zq_164 ⟨by decide, by decide⟩ ⟨by decide, by decide⟩ (by omega) hRE164mh hRG5mh hRK54mh) (fun v13 m12 hqm12 => ?_))
          obtain ⟨hIm12, hfm12, hvm12⟩ := hqm12
          have hFm12 := zfr_tr hFmh hfm12 rfl
          obtain ⟨hRE164m12, hRG5m12, hRK54m12, hvm12⟩ := hvm12
          have hRE89m12 := zR_E89_fr (zdis_fr hfm12 rfl) hRE89mh
          have r14 : 0 ≤ (m12 164 8) ∧ (m12 164 8) ≤ 20000 := zi_rd hIm12 zq_164 zb_25_8
          have w15 := zu_w32_id (z := x2 + 1) (by omega) (by omega)
          have r16 : 0 ≤ (m12 a0 6) ∧ (m12 a0 6) ≤ 161 := zi_rd hIm12 hc0 zb_24_6
          have e17 : (m12 a0 6) = (mh a0 6) := (zfr_ap hfm12 hc0 rfl)
          have r18 : (-2147483648) ≤ (m12 164 11) ∧ (m12 164 11) ≤ 2147483647 := zi_rd hIm12 zq_164 zb_25_11
          have e19 : (m12 164 11) = (mh 164 11) := (zfr_ap hfm12 zq_164 rfl)
          have hM : (47 - (zu_w32 (x2 + 1))) * 6 + 5 < (k : Int) := by omega
          exact zw_le (zu_forget (zu_lr_same (zu_lr_same (zu_lr_same (zu_lr_drop zu_lr_nil))))) (ih.1 (zu_w32 (x2 + 1)) m12 hIm12 hFm12 ⟨by omega, by omega⟩ ⟨by omega, by omega⟩ (by omega) (by omega) (by omega) hRE164m12 hRE89m12 hRG5m12 hRK54m12 hM)
        · have b20 : 0 ≤ (mh a0 6) ∧ (mh a0 6) < 161 := by omega
          refine zw_if b20 ?_
          generalize hmm21 : zu_up mh 154 (mh a0 6) (-1) = m21
          have hIm21 := zi_up hmm21 hImh zq_154 (zb_85 _) (by omega) (by omega)
          have hFm21 := zfr_up hmm21 hFmh zq_154 rfl
          have hRE164m21 := zR_E164_fr (zdis_fr (zfr_up hmm21 (zfr_rf [(85, 0)] _) zq_154 rfl) rfl) hRE164mh
          have hRE89m21 := zR_E89_fr (zdis_fr (zfr_up hmm21 (zfr_rf [(85, 0)] _) zq_154 rfl) rfl) hRE89mh
          have hRG5m21 := zR_G5_fr (zdis_fr (zfr_up hmm21 (zfr_rf [(85, 0)] _) zq_154 rfl) rfl) hRG5mh
          have hRK54m21 := zR_K54_fr (zdis_fr (zfr_up hmm21 (zfr_rf [(85, 0)] _) zq_154 rfl) rfl) hRK54mh
          have r22 : 0 ≤ (m21 a0 6) ∧ (m21 a0 6) ≤ 161 := zi_rd hIm21 hc0 zb_24_6
          have e23 : (m21 a0 6) = (mh a0 6) := (zs_ne hmm21 (Or.inl (zc_ne hc0 zq_154 (by decide))))
          have w24 := zu_w32_id (z := (m21 a0 6) + 1) (by omega) (by omega)
          generalize hmm25 : zu_up m21 a0 6 (zu_w32 ((m21 a0 6) + 1)) = m25
          have hIm25 := zi_up hmm25 hIm21 hc0 zb_24_6 (by omega) (by omega)
          have hFm25 := zfr_up hmm25 hFm21 hc0 rfl
          have hRE164m25 := zR_E164_fr (zdis_fr (zfr_up hmm25 (zfr_rf [(24, 7)] _) hc0 rfl) rfl) hRE164m21
          have hRE89m25 := zR_E89_fr (zdis_fr (zfr_up hmm25 (zfr_rf [(24, 7)] _) hc0 rfl) rfl) hRE89m21
          have hRG5m25 := zR_G5_fr (zdis_fr (zfr_up hmm25 (zfr_rf [(24, 7)] _) hc0 rfl) rfl) hRG5m21
          have hRK54m25 := zR_K54_fr (zdis_fr (zfr_up hmm25 (zfr_rf [(24, 7)] _) hc0 rfl) rfl) hRK54m21
          have r26 : 0 ≤ (m25 164 8) ∧ (m25 164 8) ≤ 20000 := zi_rd hIm25 zq_164 zb_25_8
          have e27 : (m25 164 8) = (mh 164 8) := (Eq.trans (zs_ne hmm25 (Or.inl (zc_ne zq_164 hc0 (by decide)))) (zs_ne hmm21 (Or.inl (zc_ne zq_164 zq_154 (by decide)))))
          refine zw_bd (zw_mono (zk_214_25 n hIm25 zq_164 ⟨by decide, by decide⟩ ⟨by decide, by decide⟩ (by omega) hRE164m25 hRG5m25 hRK54m25) (fun v29 m28 hqm28 => ?_))
          obtain ⟨hIm28, hfm28, hvm28⟩ := hqm28
          have hFm28 := zfr_tr hFm25 hfm28 rfl
          obtain ⟨hRE164m28, hRG5m28, hRK54m28, hvm28⟩ := hvm28
          have hRE89m28 := zR_E89_fr (zdis_fr hfm28 rfl) hRE89m25
          have r30 : 0 ≤ (m28 164 8) ∧ (m28 164 8) ≤ 20000 := zi_rd hIm28 zq_164 zb_25_8
          have w31 := zu_w32_id (z := x2 + 1) (by omega) (by omega)
          have r32 : 0 ≤ (m28 a0 6) ∧ (m28 a0 6) ≤ 161 := zi_rd hIm28 hc0 zb_24_6
          have e33 : (m28 a0 6) = (zu_w32 ((m21 a0 6) + 1)) := (Eq.trans (zfr_ap hfm28 hc0 rfl) (zs_eq hmm25))
          have r34 : (-2147483648) ≤ (m28 164 11) ∧ (m28 164 11) ≤ 2147483647 := zi_rd hIm28 zq_164 zb_25_11
          have e35 : (m28 164 11) = (mh 164 11) := (Eq.trans (zfr_ap hfm28 zq_164 rfl) (Eq.trans (zs_ne hmm25 (Or.inl (zc_ne zq_164 hc0 (by decide)))) (zs_ne hmm21 (Or.inl (zc_ne zq_164 zq_154 (by decide))))))
          have hM : (47 - (zu_w32 (x2 + 1))) * 6 + 5 < (k : Int) := by omega
          exact zw_le (zu_forget (zu_lr_same (zu_lr_same (zu_lr_same (zu_lr_drop zu_lr_nil))))) (ih.1 (zu_w32 (x2 + 1)) m28 hIm28 hFm28 ⟨by omega, by omega⟩ ⟨by omega, by omega⟩ (by omega) (by omega) (by omega) hRE164m28 hRE89m28 hRG5m28 hRK54m28 hM)
      · have b36 : 0 ≤ x3 ∧ x3 < 4 := by omega
        refine zw_if b36 ?_
        have r37 : (-2147483648) ≤ (mh ((164 + 2) + 20 + x3) 4) ∧ (mh ((164 + 2) + 20 + x3) 4) ≤ 2147483647 := zi_rd hImh (zc_96_e (zc_25_3 zq_164) b36) zb_27_4
        refine zw_ite (fun h38 => ?_) (fun h38 => ?_)
        · have w39 := zu_w32_id (z := x3 + 1) (by omega) (by omega)
          have hM : (4 - (zu_w32 (x3 + 1))) * 1 + (47 - x2) * 6 + 0 < (k : Int) := by omega
          exact ih.2 x2 (zu_w32 (x3 + 1)) mh hImh hFmh ⟨by omega, by omega⟩ ⟨by omega, by omega⟩ ⟨by omega, by omega⟩ (by omega) (by omega) (by omega) (by omega) hRE164mh hRE89mh hRG5mh hRK54mh hM
        · have w40 := zu_w32_id (z := x3 * 48) (by omega) (by omega)
          have b41 : 0 ≤ x3 ∧ x3 < 4 := by omega
          refine zw_if b41 ?_
          have r42 : 0 ≤ (mh ((164 + 2) + 20 + x3) 1) ∧ (mh ((164 + 2) + 20 + x3) 1) ≤ 47 := zi_rd hImh (zc_96_e (zc_25_3 zq_164) b41) zb_27_1
          have w43 := zu_w32_id (z := (zu_w32 (x3 * 48)) + (mh ((164 + 2) + 20 + x3) 1)) (by omega) (by omega)
          have b44 : 0 ≤ (mh a0 6) ∧ (mh a0 6) < 161 := by omega
          refine zw_if b44 ?_
          generalize hmm45 : zu_up mh 154 (mh a0 6) (zu_w32 ((zu_w32 (x3 * 48)) + (mh ((164 + 2) + 20 + x3) 1))) = m45
          have hIm45 := zi_up hmm45 hImh zq_154 (zb_85 _) (by omega) (by omega)
          have hFm45 := zfr_up hmm45 hFmh zq_154 rfl
          have hRE164m45 := zR_E164_fr (zdis_fr (zfr_up hmm45 (zfr_rf [(85, 0)] _) zq_154 rfl) rfl) hRE164mh
          have hRE89m45 := zR_E89_fr (zdis_fr (zfr_up hmm45 (zfr_rf [(85, 0)] _) zq_154 rfl) rfl) hRE89mh
          have hRG5m45 := zR_G5_fr (zdis_fr (zfr_up hmm45 (zfr_rf [(85, 0)] _) zq_154 rfl) rfl) hRG5mh
          have hRK54m45 := zR_K54_fr (zdis_fr (zfr_up hmm45 (zfr_rf [(85, 0)] _) zq_154 rfl) rfl) hRK54mh
          have r46 : 0 ≤ (m45 a0 6) ∧ (m45 a0 6) ≤ 161 := zi_rd hIm45 hc0 zb_24_6
          have e47 : (m45 a0 6) = (mh a0 6) := (zs_ne hmm45 (Or.inl (zc_ne hc0 zq_154 (by decide))))
          have w48 := zu_w32_id (z := (m45 a0 6) + 1) (by omega) (by omega)
          generalize hmm49 : zu_up m45 a0 6 (zu_w32 ((m45 a0 6) + 1)) = m49
          have hIm49 := zi_up hmm49 hIm45 hc0 zb_24_6 (by omega) (by omega)
          have hFm49 := zfr_up hmm49 hFm45 hc0 rfl
          have hRE164m49 := zR_E164_fr (zdis_fr (zfr_up hmm49 (zfr_rf [(24, 7)] _) hc0 rfl) rfl) hRE164m45
          have hRE89m49 := zR_E89_fr (zdis_fr (zfr_up hmm49 (zfr_rf [(24, 7)] _) hc0 rfl) rfl) hRE89m45
          have hRG5m49 := zR_G5_fr (zdis_fr (zfr_up hmm49 (zfr_rf [(24, 7)] _) hc0 rfl) rfl) hRG5m45
          have hRK54m49 := zR_K54_fr (zdis_fr (zfr_up hmm49 (zfr_rf [(24, 7)] _) hc0 rfl) rfl) hRK54m45
          have w50 := zu_w32_id (z := x3 + 1) (by omega) (by omega)
          have r51 : 0 ≤ (m49 a0 6) ∧ (m49 a0 6) ≤ 161 := zi_rd hIm49 hc0 zb_24_6
          have e52 : (m49 a0 6) = (zu_w32 ((m45 a0 6) + 1)) := (zs_eq hmm49)
          have r53 : 0 ≤ (m49 164 8) ∧ (m49 164 8) ≤ 20000 := zi_rd hIm49 zq_164 zb_25_8
          have e54 : (m49 164 8) = (mh 164 8) := (Eq.trans (zs_ne hmm49 (Or.inl (zc_ne zq_164 hc0 (by decide)))) (zs_ne hmm45 (Or.inl (zc_ne zq_164 zq_154 (by decide)))))
          have r55 : (-2147483648) ≤ (m49 164 11) ∧ (m49 164 11) ≤ 2147483647 := zi_rd hIm49 zq_164 zb_25_11
          have e56 : (m49 164 11) = (mh 164 11) := (Eq.trans (zs_ne hmm49 (Or.inl (zc_ne zq_164 hc0 (by decide)))) (zs_ne hmm45 (Or.inl (zc_ne zq_164 zq_154 (by decide)))))
          have hM : (4 - (zu_w32 (x3 + 1))) * 1 + (47 - x2) * 6 + 0 < (k : Int) := by omega
          exact ih.2 x2 (zu_w32 (x3 + 1)) m49 hIm49 hFm49 ⟨by omega, by omega⟩ ⟨by omega, by omega⟩ ⟨by omega, by omega⟩ (by omega) (by omega) (by omega) (by omega) hRE164m49 hRE89m49 hRG5m49 hRK54m49 hM
set_option maxHeartbeats 4000000 in
theorem zk_286 (n : Nat) {a0 a1 : Int} {m0 : zu_m} (hIm0 : zi_I m0) (hc0 : zcls a0 = 24) (ha1 : 1 ≤ a1 ∧ a1 ≤ 40)    (hRE89m0 : zE m0 89 50) (hRG5m0 : zgeo m0 50) (hRK54m0 : zR_K54 m0) : zw (zu_call (zt_T n) 286 [(33, a0), (0, a1)] m0) (fun v m => zi_I m ∧ zfr [(24, 7), (25, 3), (25, 5), (25, 9), (25, 10), (25, 11), (25, 12), (26, 1), (26, 2), (26, 3), (26, 4), (27, 1), (27, 2), (27, 3), (27, 4), (27, 5), (27, 6), (27, 7), (27, 8), (56, 0), (59, 1), (59, 2), (59, 3), (59, 4), (59, 5), (59, 6), (59, 7), (85, 0), (97, 0), (98, 0)] m0 m ∧ zE m 164 50 ∧ zE m 89 50 ∧ zgeo m 50 ∧ zR_K54 m ∧ True) := by
  have hFm0 : zfr [(24, 7), (25, 3), (25, 5), (25, 9), (25, 10), (25, 11), (25, 12), (26, 1), (26, 2), (26, 3), (26, 4), (27, 1), (27, 2), (27, 3), (27, 4), (27, 5), (27, 6), (27, 7), (27, 8), (56, 0), (59, 1), (59, 2), (59, 3), (59, 4), (59, 5), (59, 6), (59, 7), (85, 0), (97, 0), (98, 0)] m0 m0 := zfr_rf _ _
  refine zw_eq (zu_call_at (zt_T n) (zm_286 n) (zdp_286 n) _ _ _ _ _ rfl (zr_286_0 n _ _ a0 a1 m0)) ?_
  generalize hmm57 : zu_up m0 a0 6 0 = m57
  have hIm57 := zi_up hmm57 hIm0 hc0 zb_24_6 (by omega) (by omega)
  have hFm57 := zfr_up hmm57 hFm0 hc0 rfl
  have hRE89m57 := zR_E89_fr (zdis_fr (zfr_up hmm57 (zfr_rf [(24, 7)] _) hc0 rfl) rfl) hRE89m0
  have hRG5m57 := zR_G5_fr (zdis_fr (zfr_up hmm57 (zfr_rf [(24, 7)] _) hc0 rfl) rfl) hRG5m0
  have hRK54m57 := zR_K54_fr (zdis_fr (zfr_up hmm57 (zfr_rf [(24, 7)] _) hc0 rfl) rfl) hRK54m0
  refine zw_bd (zw_mono (zk_22_25_16 n hIm57 zq_164 zq_89) (fun v59 m58 hqm58 => ?_))
  obtain ⟨hIm58, hfm58, hvm58⟩ := hqm58
  have hFm58 := zfr_tr hFm57 hfm58 rfl
  have hRE89m58 := zR_E89_fr (zdis_fr hfm58 rfl) hRE89m57
  have hRG5m58 := zR_G5_fr (zdis_fr hfm58 rfl) hRG5m57
  have hRK54m58 := zR_K54_fr (zdis_fr hfm58 rfl) hRK54m57
  have hRE164m58 : zE m58 164 50 := (hvm58.2.2) hRE89m57
  have r60 : 0 ≤ (m58 a0 6) ∧ (m58 a0 6) ≤ 161 := zi_rd hIm58 hc0 zb_24_6
  have e61 : (m58 a0 6) = 0 := (Eq.trans (zfr_ap hfm58 hc0 rfl) (zs_eq hmm57))
  have r62 : (-2147483648) ≤ (m58 164 11) ∧ (m58 164 11) ≤ 2147483647 := zi_rd hIm58 zq_164 zb_25_11
  have hM : (47 - 0) * 6 + 5 < ((288 : Nat) : Int) := by omega
  exact (zl_286 n (m0 := m0) hc0 288).1 0 m58 hIm58 hFm58 ⟨by omega, by omega⟩ ⟨by omega, by omega⟩ (by omega) (by omega) (by omega) hRE164m58 hRE89m58 hRG5m58 hRK54m58 hM
set_option maxHeartbeats 4000000 in
theorem zl_287 (n : Nat) {a0 a1 a2 a3 : Int} {m0 : zu_m} (hc0 : zcls a0 = 24)   : ∀ k : Nat, (∀ (x4 : Int) (mh : zu_m), zi_I mh → zfr [(24, 16), (56, 0), (59, 1), (59, 2), (59, 3), (59, 4), (59, 5), (59, 6), (59, 7), (86, 0), (87, 0), (88, 0), (89, 0), (90, 0), (91, 0), (92, 0)] m0 mh → (1 ≤ a1 ∧ a1 ≤ 2) → (0 ≤ a2 ∧ a2 ≤ 47) → (0 ≤ a3 ∧ a3 ≤ 47) → (0 ≤ x4 ∧ x4 ≤ 161) → (zR_K54 mh) → (161 - x4) * 1 + 0 < (k : Int) → zw (zu_ex (zt_T n) 287 10 [(33, a0), (0, a1), (0, a2), (0, a3), (0, x4)] [] mh) (fun v m => zi_I m ∧ zfr [(24, 16), (56, 0), (59, 1), (59, 2), (59, 3), (59, 4), (59, 5), (59, 6), (59, 7), (86, 0), (87, 0), (88, 0), (89, 0), (90, 0), (91, 0), (92, 0)] m0 m ∧ zR_K54 m ∧ True)) := by
  intro k
  induction k with
  | zero => exact fun x4 mh hImh hFmh hba1 hba2 hba3 hbx4 hRK54mh hM => by exfalso; omega
  | succ k ih =>
    intro x4 mh hImh hFmh hba1 hba2 hba3 hbx4 hRK54mh hM
    refine zw_eq (zu_rega_at (zt_T n) (zm_287 n) (zdp_287 n) _ _ _ _ _ _ (zr_287_10 n _ _ a0 a1 a2 a3 x4 mh)) ?_
    have r1 : 0 ≤ (mh a0 6) ∧ (mh a0 6) ≤ 161 := zi_rd hImh hc0 zb_24_6
    refine zw_ite (fun h2 => ?_) (fun h2 => ?_)
    · refine zw_bd (zw_mono (zk_293 n hImh hc0) (fun v4 m3 hqm3 => ?_))
      obtain ⟨hIm3, hfm3, hvm3⟩ := hqm3
      have hFm3 := zfr_tr hFmh hfm3 rfl
      have hRK54m3 := zR_K54_fr (zdis_fr hfm3 rfl) hRK54mh
      have r5 : (-2147483648) ≤ (m3 a0 15) ∧ (m3 a0 15) ≤ 2147483647 := zi_rd hIm3 hc0 zb_24_15
      refine zw_ite (fun h6 => ?_) (fun h6 => ?_)
      · exact zw_some ⟨hIm3, hFm3, hRK54m3, trivial⟩
      · generalize hmm7 : zu_up m3 a0 15 v4 = m7
        have hIm7 := zi_up hmm7 hIm3 hc0 zb_24_15 (by omega) (by omega)
        have hFm7 := zfr_up hmm7 hFm3 hc0 rfl
        have hRK54m7 := zR_K54_fr (zdis_fr (zfr_up hmm7 (zfr_rf [(24, 16)] _) hc0 rfl) rfl) hRK54m3
        have b8 : 0 ≤ (0 : Int) ∧ (0 : Int) < 2 := by omega
        refine zw_if b8 ?_
        generalize hmm9 : zu_up m7 161 0 a2 = m9
        have hIm9 := zi_up hmm9 hIm7 zq_161 (zb_92 _) (by omega) (by omega)
        have hFm9 := zfr_up hmm9 hFm7 zq_161 rfl
        have hRK54m9 := zR_K54_fr (zdis_fr (zfr_up hmm9 (zfr_rf [(92, 0)] _) zq_161 rfl) rfl) hRK54m7
        have b10 : 0 ≤ (1 : Int) ∧ (1 : Int) < 2 := by omega
        refine zw_if b10 ?_
        generalize hmm11 : zu_up m9 161 1 a3 = m11
        have hIm11 := zi_up hmm11 hIm9 zq_161 (zb_92 _) (by omega) (by omega)
        have hFm11 := zfr_up hmm11 hFm9 zq_161 rfl
        have hRK54m11 := zR_K54_fr (zdis_fr (zfr_up hmm11 (zfr_rf [(92, 0)] _) zq_161 rfl) rfl) hRK54m9
        exact zw_some ⟨hIm11, hFm11, hRK54m11, trivial⟩
    · have b12 : 0 ≤ x4 ∧ x4 < 161 := by omega
      refine zw_if b12 ?_
      have r13 : (-1) ≤ (mh 154 x4) ∧ (mh 154 x4) ≤ 191 := zi_rd hImh zq_154 (zb_85 _)
      refine zw_ite (fun h14 => ?_) (fun h14 => ?_)
      · have b15 : 0 ≤ x4 ∧ x4 < 161 := by omega
        refine zw_if b15 ?_
        refine zw_nif (by omega) ?_
        have d16 : Int.tdiv (mh 154 x4) 48 = (mh 154 x4) / 48 := Int.tdiv_eq_ediv_of_nonneg (by omega)
        have w17 := zu_w32_id (z := Int.tdiv (mh 154 x4) 48) (by omega) (by omega)
        have b18 : 0 ≤ x4 ∧ x4 < 161 := by omega
        refine zw_if b18 ?_
        refine zw_nif (by omega) ?_
        have d19 : Int.tmod (mh 154 x4) 48 = (mh 154 x4) % 48 := Int.tmod_eq_emod_of_nonneg (by omega)
        have r20 : 0 ≤ (mh 89 2) ∧ (mh 89 2) ≤ 16 := zi_rd hImh zq_89 zb_16_2
        have w21 := zu_w32_id (z := (mh 89 2) + a1) (by omega) (by omega)
        refine zw_bd (zw_mono (zk_290 n hImh hc0 ⟨by omega, by omega⟩ ⟨by omega, by omega⟩ ⟨by omega, by omega⟩ hRK54mh) (fun v23 m22 hqm22 => ?_))
        obtain ⟨hIm22, hfm22, hvm22⟩ := hqm22
        have hFm22 := zfr_tr hFmh hfm22 rfl
        obtain ⟨hRK54m22, hvm22⟩ := hvm22
        have w24 := zu_w32_id (z := x4 + 1) (by omega) (by omega)
        have hM : (161 - (zu_w32 (x4 + 1))) * 1 + 0 < (k : Int) := by omega
        exact ih (zu_w32 (x4 + 1)) m22 hIm22 hFm22 ⟨by omega, by omega⟩ ⟨by omega, by omega⟩ ⟨by omega, by omega⟩ ⟨by omega, by omega⟩ hRK54m22 hM
      · have r25 : 0 ≤ (mh 89 2) ∧ (mh 89 2) ≤ 16 := zi_rd hImh zq_89 zb_16_2
        have w26 := zu_w32_id (z := (mh 89 2) + a1) (by omega) (by omega)
        refine zw_bd (zw_mono (zk_289 n hImh hc0 ⟨by omega, by omega⟩) (fun v28 m27 hqm27 => ?_))
        obtain ⟨hIm27, hfm27, hvm27⟩ := hqm27
        have hFm27 := zfr_tr hFmh hfm27 rfl
        have hRK54m27 := zR_K54_fr (zdis_fr hfm27 rfl) hRK54mh
        have w29 := zu_w32_id (z := x4 + 1) (by omega) (by omega)
        have hM : (161 - (zu_w32 (x4 + 1))) * 1 + 0 < (k : Int) := by omega
        exact ih (zu_w32 (x4 + 1)) m27 hIm27 hFm27 ⟨by omega, by omega⟩ ⟨by omega, by omega⟩ ⟨by omega, by omega⟩ ⟨by omega, by omega⟩ hRK54m27 hM
set_option maxHeartbeats 4000000 in
theorem zk_287 (n : Nat) {a0 a1 a2 a3 : Int} {m0 : zu_m} (hIm0 : zi_I m0) (hc0 : zcls a0 = 24) (ha1 : 1 ≤ a1 ∧ a1 ≤ 2) (ha2 : 0 ≤ a2 ∧ a2 ≤ 47) (ha3 : 0 ≤ a3 ∧ a3 ≤ 47)    (hRK54m0 : zR_K54 m0) : zw (zu_call (zt_T n) 287 [(33, a0), (0, a1), (0, a2), (0, a3)] m0) (fun v m => zi_I m ∧ zfr [(24, 16), (56, 0), (59, 1), (59, 2), (59, 3), (59, 4), (59, 5), (59, 6), (59, 7), (86, 0), (87, 0), (88, 0), (89, 0), (90, 0), (91, 0), (92, 0)] m0 m ∧ zR_K54 m ∧ True) := by
  have hFm0 : zfr [(24, 16), (56, 0), (59, 1), (59, 2), (59, 3), (59, 4), (59, 5), (59, 6), (59, 7), (86, 0), (87, 0), (88, 0), (89, 0), (90, 0), (91, 0), (92, 0)] m0 m0 := zfr_rf _ _
  refine zw_eq (zu_call_at (zt_T n) (zm_287 n) (zdp_287 n) _ _ _ _ _ rfl (zr_287_0 n _ _ a0 a1 a2 a3 m0)) ?_
  refine zw_bd (zw_mono (zk_288 n hIm0 hc0 ⟨by omega, by omega⟩ ⟨by omega, by omega⟩ ⟨by omega, by omega⟩) (fun v31 m30 hqm30 => ?_))
  obtain ⟨hIm30, hfm30, hvm30⟩ := hqm30
  have hFm30 := zfr_tr hFm0 hfm30 rfl
  have hRK54m30 := zR_K54_fr (zdis_fr hfm30 rfl) hRK54m0
  have hM : (161 - 0) * 1 + 0 < ((162 : Nat) : Int) := by omega
  exact (zl_287 n (m0 := m0) hc0 162) 0 m30 hIm30 hFm30 ⟨by omega, by omega⟩ ⟨by omega, by omega⟩ ⟨by omega, by omega⟩ ⟨by omega, by omega⟩ hRK54m30 hM
set_option maxHeartbeats 4000000 in
theorem zl_298 (n : Nat) {a0 a1 : Int} {m0 : zu_m} (hc0 : zcls a0 = 24)   : ∀ k : Nat, (∀ (x2 x3 : Int) (mh : zu_m), zi_I mh → zfr [(24, 16), (25, 3), (25, 5), (25, 9), (25, 10), (25, 11), (25, 12), (26, 1), (26, 2), (26, 3), (26, 4), (27, 1), (27, 2), (27, 3), (27, 4), (27, 5), (27, 6), (27, 7), (27, 8), (56, 0), (59, 1), (59, 2), (59, 3), (59, 4), (59, 5), (59, 6), (59, 7), (97, 0), (98, 0)] m0 mh → (1 ≤ a1 ∧ a1 ≤ 200) → (0 ≤ x2 ∧ x2 ≤ 3) → (1 ≤ x3 ∧ x3 ≤ 4) → (1 ≤ mh 89 4 ∧ mh 89 4 ≤ 4) → (zE mh 89 50) → (zgeo mh 50) → (zR_K54 mh) → (4 - x3) * 1 + 32 < (k : Int) → zw (zu_ex (zt_T n) 298 4 [(33, a0), (0, a1), (0, x2), (0, x3), (2, 0), (2, 0)] [] mh) (fun v m => zi_I m ∧ zfr [(24, 16), (25, 3), (25, 5), (25, 9), (25, 10), (25, 11), (25, 12), (26, 1), (26, 2), (26, 3), (26, 4), (27, 1), (27, 2), (27, 3), (27, 4), (27, 5), (27, 6), (27, 7), (27, 8), (56, 0), (59, 1), (59, 2), (59, 3), (59, 4), (59, 5), (59, 6), (59, 7), (97, 0), (98, 0)] m0 m ∧ zE m 89 50 ∧ zgeo m 50 ∧ zR_K54 m ∧ (0 ≤ v ∧ v ≤ 30) ∧ ((-2147483648) ≤ m a0 15 ∧ m a0 15 ≤ 1000000))) ∧ (∀ (x2 x3 x4 : Int) (mh : zu_m), zi_I mh → zfr [(24, 16), (25, 3), (25, 5), (25, 9), (25, 10), (25, 11), (25, 12), (26, 1), (26, 2), (26, 3), (26, 4), (27, 1), (27, 2), (27, 3), (27, 4), (27, 5), (27, 6), (27, 7), (27, 8), (56, 0), (59, 1), (59, 2), (59, 3), (59, 4), (59, 5), (59, 6), (59, 7), (97, 0), (98, 0)] m0 mh → (1 ≤ a1 ∧ a1 ≤ 200) → (0 ≤ x2 ∧ x2 ≤ 3) → (0 ≤ x3 ∧ x3 ≤ 30) → (0 ≤ x4 ∧ x4 ≤ 31) → (1 ≤ mh 89 4 ∧ mh 89 4 ≤ 4) → ((-2147483648) ≤ mh a0 15 ∧ mh a0 15 ≤ 1000000) → (zE mh 89 50) → (zgeo mh 50) → (zR_K54 mh) → (31 - x4) * 1 + 0 < (k : Int) → zw (zu_ex (zt_T n) 298 61 [(33, a0), (0, a1), (0, x2), (0, x3), (0, x4), (2, 0)] [] mh) (fun v m => zi_I m ∧ zfr [(24, 16), (25, 3), (25, 5), (25, 9), (25, 10), (25, 11), (25, 12), (26, 1), (26, 2), (26, 3), (26, 4), (27, 1), (27, 2), (27, 3), (27, 4), (27, 5), (27, 6), (27, 7), (27, 8), (56, 0), (59, 1), (59, 2), (59, 3), (59, 4), (59, 5), (59, 6), (59, 7), (97, 0), (98, 0)] m0 m ∧ zE m 89 50 ∧ zgeo m 50 ∧ zR_K54 m ∧ (0 ≤ v ∧ v ≤ 30) ∧ ((-2147483648) ≤ m a0 15 ∧ m a0 15 ≤ 1000000))) := by
  intro k
  induction k with
  | zero => exact ⟨fun x2 x3 mh hImh hFmh hba1 hbx2 hbx3 hg3 hRE89mh hRG5mh hRK54mh hM => by exfalso; omega, fun x2 x3 x4 mh hImh hFmh hba1 hbx2 hbx3 hbx4 hg4 hg5 hRE89mh hRG5mh hRK54mh hM => by exfalso; omega⟩
  | succ k ih =>
    refine ⟨?_, ?_⟩
    · intro x2 x3 mh hImh hFmh hba1 hbx2 hbx3 hg3 hRE89mh hRG5mh hRK54mh hM
      refine zw_eq (zu_rega_at (zt_T n) (zm_298 n) (zdp_298 n) _ _ _ _ _ _ (zr_298_4 n _ _ a0 a1 x2 x3 mh)) ?_
      refine zw_ite (fun h1 => ?_) (fun h1 => ?_)
      · generalize hmm2 : zu_up mh a0 15 1000000 = m2
        have hIm2 := zi_up hmm2 hImh hc0 zb_24_15 (by omega) (by omega)
        have hFm2 := zfr_up hmm2 hFmh hc0 rfl
        have hRE89m2 := zR_E89_fr (zdis_fr (zfr_up hmm2 (zfr_rf [(24, 16)] _) hc0 rfl) rfl) hRE89mh
        have hRG5m2 := zR_G5_fr (zdis_fr (zfr_up hmm2 (zfr_rf [(24, 16)] _) hc0 rfl) rfl) hRG5mh
        have hRK54m2 := zR_K54_fr (zdis_fr (zfr_up hmm2 (zfr_rf [(24, 16)] _) hc0 rfl) rfl) hRK54mh
        have r3 : 0 ≤ (m2 89 4) ∧ (m2 89 4) ≤ 4 := zi_rd hIm2 zq_89 zb_16_4
        have e4 : (m2 89 4) = (mh 89 4) := (zs_ne hmm2 (Or.inl (zc_ne zq_89 hc0 (by decide))))
        have r5 : (-2147483648) ≤ (m2 a0 15) ∧ (m2 a0 15) ≤ 2147483647 := zi_rd hIm2 hc0 zb_24_15
        have e6 : (m2 a0 15) = 1000000 := (zs_eq hmm2)
        have hM : (31 - 0) * 1 + 0 < (k : Int) := by omega
        exact ih.2 x2 0 0 m2 hIm2 hFm2 ⟨by omega, by omega⟩ ⟨by omega, by omega⟩ ⟨by omega, by omega⟩ ⟨by omega, by omega⟩ ⟨by omega, by omega⟩ ⟨by omega, by omega⟩ hRE89m2 hRG5m2 hRK54m2 hM
      · have b7 : 0 ≤ x3 ∧ x3 < 4 := by omega
        refine zw_if b7 ?_
        have r8 : 0 ≤ (mh ((89 + 2) + 20 + x3) 2) ∧ (mh ((89 + 2) + 20 + x3) 2) ≤ 15 := zi_rd hImh (zc_66_e (zc_16_3 zq_89) b7) zb_18_2
        have b9 : 0 ≤ x2 ∧ x2 < 4 := by omega
        refine zw_if b9 ?_
        have r10 : 0 ≤ (mh ((89 + 2) + 20 + x2) 2) ∧ (mh ((89 + 2) + 20 + x2) 2) ≤ 15 := zi_rd hImh (zc_66_e (zc_16_3 zq_89) b9) zb_18_2
        refine zw_ite (fun h11 => ?_) (fun h11 => ?_)
        · have w12 := zu_w32_id (z := x3 + 1) (by omega) (by omega)
          have hM : (4 - (zu_w32 (x3 + 1))) * 1 + 32 < (k : Int) := by omega
          exact ih.1 x2 (zu_w32 (x3 + 1)) mh hImh hFmh ⟨by omega, by omega⟩ ⟨by omega, by omega⟩ ⟨by omega, by omega⟩ ⟨by omega, by omega⟩ hRE89mh hRG5mh hRK54mh hM
        · have w13 := zu_w32_id (z := x3 + 1) (by omega) (by omega)
          have hM : (4 - (zu_w32 (x3 + 1))) * 1 + 32 < (k : Int) := by omega
          exact ih.1 x3 (zu_w32 (x3 + 1)) mh hImh hFmh ⟨by omega, by omega⟩ ⟨by omega, by omega⟩ ⟨by omega, by omega⟩ ⟨by omega, by omega⟩ hRE89mh hRG5mh hRK54mh hM
    · intro x2 x3 x4 mh hImh hFmh hba1 hbx2 hbx3 hbx4 hg4 hg5 hRE89mh hRG5mh hRK54mh hM
      refine zw_eq (zu_rega_at (zt_T n) (zm_298 n) (zdp_298 n) _ _ _ _ _ _ (zr_298_61 n _ _ a0 a1 x2 x3 x4 mh)) ?_
      refine zw_ite (fun h14 => ?_) (fun h14 => ?_)
      · exact zw_some ⟨hImh, hFmh, hRE89mh, hRG5mh, hRK54mh, ⟨by omega, by omega⟩, ⟨by omega, by omega⟩⟩
      · refine zw_bd (zw_mono (zk_22_25_16 n hImh zq_164 zq_89) (fun v16 m15 hqm15 => ?_))
        obtain ⟨hIm15, hfm15, hvm15⟩ := hqm15
        have hFm15 := zfr_tr hFmh hfm15 rfl
        have hRE89m15 := zR_E89_fr (zdis_fr hfm15 rfl) hRE89mh
        have hRG5m15 := zR_G5_fr (zdis_fr hfm15 rfl) hRG5mh
        have hRK54m15 := zR_K54_fr (zdis_fr hfm15 rfl) hRK54mh
        have hRE164m15 : zE m15 164 50 := (hvm15.2.2) hRE89mh
        have b17 : 0 ≤ x2 ∧ x2 < 4 := by omega
        refine zw_if b17 ?_
        have r18 : (-2147483648) ≤ (m15 ((164 + 2) + 20 + x2) 4) ∧ (m15 ((164 + 2) + 20 + x2) 4) ≤ 2147483647 := zi_rd hIm15 (zc_96_e (zc_25_3 zq_164) b17) zb_27_4
        have w19 := zu_w32_rg ((m15 ((164 + 2) + 20 + x2) 4) + x4)
        generalize hmm20 : zu_up m15 ((164 + 2) + 20 + x2) 4 (zu_w32 ((m15 ((164 + 2) + 20 + x2) 4) + x4)) = m20
        have hIm20 := zi_up hmm20 hIm15 (zc_96_e (zc_25_3 zq_164) b17) zb_27_4 (by omega) (by omega)
        have hFm20 := zfr_up hmm20 hFm15 (zc_96_e (zc_25_3 zq_164) b17) rfl
        have hRE164m20 := zR_E164_fr (zdis_fr (zfr_up hmm20 (zfr_rf [(27, 5)] _) (zc_96_e (zc_25_3 zq_164) b17) rfl) rfl) hRE164m15
        have hRE89m20 := zR_E89_fr (zdis_fr (zfr_up hmm20 (zfr_rf [(27, 5)] _) (zc_96_e (zc_25_3 zq_164) b17) rfl) rfl) hRE89m15
        have hRG5m20 := zR_G5_fr (zdis_fr (zfr_up hmm20 (zfr_rf [(27, 5)] _) (zc_96_e (zc_25_3 zq_164) b17) rfl) rfl) hRG5m15
        have hRK54m20 := zR_K54_fr (zdis_fr (zfr_up hmm20 (zfr_rf [(27, 5)] _) (zc_96_e (zc_25_3 zq_164) b17) rfl) rfl) hRK54m15
        have r21 : 0 ≤ (m20 164 8) ∧ (m20 164 8) ≤ 20000 := zi_rd hIm20 zq_164 zb_25_8
        have e22 : (m20 164 8) = (m15 164 8) := (zs_ne hmm20 (Or.inl (zc_ne zq_164 (zc_96_e (zc_25_3 zq_164) b17) (by decide))))
        refine zw_bd (zw_mono (zk_214_25 n hIm20 zq_164 ⟨by omega, by omega⟩ ⟨by decide, by decide⟩ (by omega) hRE164m20 hRG5m20 hRK54m20) (fun v24 m23 hqm23 => ?_))
        obtain ⟨hIm23, hfm23, hvm23⟩ := hqm23
        have hFm23 := zfr_tr hFm20 hfm23 rfl
        obtain ⟨hRE164m23, hRG5m23, hRK54m23, hvm23⟩ := hvm23
        have hRE89m23 := zR_E89_fr (zdis_fr hfm23 rfl) hRE89m20
        have r25 : 0 ≤ (m23 164 8) ∧ (m23 164 8) ≤ 20000 := zi_rd hIm23 zq_164 zb_25_8
        refine zw_bd (zw_mono (zk_239_25 n hIm23 zq_164) (fun v27 m26 hqm26 => ?_))
        obtain ⟨hIm26, hfm26, hvm26⟩ := hqm26
        have hFm26 := zfr_tr hFm23 hfm26 rfl
        have hRE164m26 := zR_E164_fr (zdis_fr hfm26 rfl) hRE164m23
        have hRE89m26 := zR_E89_fr (zdis_fr hfm26 rfl) hRE89m23
        have hRG5m26 := zR_G5_fr (zdis_fr hfm26 rfl) hRG5m23
        have hRK54m26 := zR_K54_fr (zdis_fr hfm26 rfl) hRK54m23
        have r28 : (-2147483648) ≤ (m26 a0 15) ∧ (m26 a0 15) ≤ 2147483647 := zi_rd hIm26 hc0 zb_24_15
        have e29 : (m26 a0 15) = (mh a0 15) := (Eq.trans (zfr_ap hfm26 hc0 rfl) (Eq.trans (zfr_ap hfm23 hc0 rfl) (Eq.trans (zs_ne hmm20 (Or.inl (zc_ne hc0 (zc_96_e (zc_25_3 zq_164) b17) (by decide)))) (zfr_ap hfm15 hc0 rfl))))
        refine zw_ite (fun h30 => ?_) (fun h30 => ?_)
        · have w31 := zu_w32_id (z := x4 + 1) (by omega) (by omega)
          have r32 : 0 ≤ (m26 89 4) ∧ (m26 89 4) ≤ 4 := zi_rd hIm26 zq_89 zb_16_4
          have e33 : (m26 89 4) = (mh 89 4) := (Eq.trans (zfr_ap hfm26 zq_89 rfl) (Eq.trans (zfr_ap hfm23 zq_89 rfl) (Eq.trans (zs_ne hmm20 (Or.inl (zc_ne zq_89 (zc_96_e (zc_25_3 zq_164) b17) (by decide)))) (zfr_ap hfm15 zq_89 rfl))))
          have hM : (31 - (zu_w32 (x4 + 1))) * 1 + 0 < (k : Int) := by omega
          exact zw_le (zu_forget (zu_lr_same (zu_lr_same (zu_lr_same (zu_lr_same (zu_lr_same (zu_lr_drop zu_lr_nil))))))) (ih.2 x2 x3 (zu_w32 (x4 + 1)) m26 hIm26 hFm26 ⟨by omega, by omega⟩ ⟨by omega, by omega⟩ ⟨by omega, by omega⟩ ⟨by omega, by omega⟩ ⟨by omega, by omega⟩ ⟨by omega, by omega⟩ hRE89m26 hRG5m26 hRK54m26 hM)
        · generalize hmm34 : zu_up m26 a0 15 v27 = m34
          have hIm34 := zi_up hmm34 hIm26 hc0 zb_24_15 (by omega) (by omega)
          have hFm34 := zfr_up hmm34 hFm26 hc0 rfl
          have hRE164m34 := zR_E164_fr (zdis_fr (zfr_up hmm34 (zfr_rf [(24, 16)] _) hc0 rfl) rfl) hRE164m26
          have hRE89m34 := zR_E89_fr (zdis_fr (zfr_up hmm34 (zfr_rf [(24, 16)] _) hc0 rfl) rfl) hRE89m26
          have hRG5m34 := zR_G5_fr (zdis_fr (zfr_up hmm34 (zfr_rf [(24, 16)] _) hc0 rfl) rfl) hRG5m26
          have hRK54m34 := zR_K54_fr (zdis_fr (zfr_up hmm34 (zfr_rf [(24, 16)] _) hc0 rfl) rfl) hRK54m26
          have w35 := zu_w32_id (z := x4 + 1) (by omega) (by omega)
          have r36 : 0 ≤ (m34 89 4) ∧ (m34 89 4) ≤ 4 := zi_rd hIm34 zq_89 zb_16_4
          have e37 : (m34 89 4) = (mh 89 4) := (Eq.trans (zs_ne hmm34 (Or.inl (zc_ne zq_89 hc0 (by decide)))) (Eq.trans (zfr_ap hfm26 zq_89 rfl) (Eq.trans (zfr_ap hfm23 zq_89 rfl) (Eq.trans (zs_ne hmm20 (Or.inl (zc_ne zq_89 (zc_96_e (zc_25_3 zq_164) b17) (by decide)))) (zfr_ap hfm15 zq_89 rfl)))))
          have r38 : (-2147483648) ≤ (m34 a0 15) ∧ (m34 a0 15) ≤ 2147483647 := zi_rd hIm34 hc0 zb_24_15
          have e39 : (m34 a0 15) = v27 := (zs_eq hmm34)
          have hM : (31 - (zu_w32 (x4 + 1))) * 1 + 0 < (k : Int) := by omega
          exact zw_le (zu_forget (zu_lr_same (zu_lr_same (zu_lr_same (zu_lr_same (zu_lr_same (zu_lr_drop zu_lr_nil))))))) (ih.2 x2 x4 (zu_w32 (x4 + 1)) m34 hIm34 hFm34 ⟨by omega, by omega⟩ ⟨by omega, by omega⟩ ⟨by omega, by omega⟩ ⟨by omega, by omega⟩ ⟨by omega, by omega⟩ ⟨by omega, by omega⟩ hRE89m34 hRG5m34 hRK54m34 hM)
set_option maxHeartbeats 4000000 in
theorem zk_298 (n : Nat) {a0 a1 : Int} {m0 : zu_m} (hIm0 : zi_I m0) (hc0 : zcls a0 = 24) (ha1 : 1 ≤ a1 ∧ a1 ≤ 200)  (he0 : 1 ≤ m0 89 4 ∧ m0 89 4 ≤ 4)  (hRE89m0 : zE m0 89 50) (hRG5m0 : zgeo m0 50) (hRK54m0 : zR_K54 m0) : zw (zu_call (zt_T n) 298 [(33, a0), (0, a1)] m0) (fun v m => zi_I m ∧ zfr [(24, 16), (25, 3), (25, 5), (25, 9), (25, 10), (25, 11), (25, 12), (26, 1), (26, 2), (26, 3), (26, 4), (27, 1), (27, 2), (27, 3), (27, 4), (27, 5), (27, 6), (27, 7), (27, 8), (56, 0), (59, 1), (59, 2), (59, 3), (59, 4), (59, 5), (59, 6), (59, 7), (97, 0), (98, 0)] m0 m ∧ zE m 89 50 ∧ zgeo m 50 ∧ zR_K54 m ∧ (0 ≤ v ∧ v ≤ 30) ∧ ((-2147483648) ≤ m a0 15 ∧ m a0 15 ≤ 1000000)) := by
  have hFm0 : zfr [(24, 16), (25, 3), (25, 5), (25, 9), (25, 10), (25, 11), (25, 12), (26, 1), (26, 2), (26, 3), (26, 4), (27, 1), (27, 2), (27, 3), (27, 4), (27, 5), (27, 6), (27, 7), (27, 8), (56, 0), (59, 1), (59, 2), (59, 3), (59, 4), (59, 5), (59, 6), (59, 7), (97, 0), (98, 0)] m0 m0 := zfr_rf _ _
  refine zw_eq (zu_call_at (zt_T n) (zm_298 n) (zdp_298 n) _ _ _ _ _ rfl (zr_298_0 n _ _ a0 a1 m0)) ?_
  have hM : (4 - 1) * 1 + 32 < ((36 : Nat) : Int) := by omega
  exact (zl_298 n (m0 := m0) hc0 36).1 0 1 m0 hIm0 hFm0 ⟨by omega, by omega⟩ ⟨by omega, by omega⟩ ⟨by omega, by omega⟩ ⟨by omega, by omega⟩ hRE89m0 hRG5m0 hRK54m0 hM
set_option maxHeartbeats 4000000 in
theorem zk_299 (n : Nat) {a0 a1 a2 : Int} {m0 : zu_m} (hIm0 : zi_I m0) (hc0 : zcls a0 = 24) (ha1 : 0 ≤ a1 ∧ a1 ≤ 2) (ha2 : 1 ≤ a2 ∧ a2 ≤ 200)    (hRE89m0 : zE m0 89 50) (hRG5m0 : zgeo m0 50) (hRK54m0 : zR_K54 m0) : zw (zu_call (zt_T n) 299 [(33, a0), (0, a1), (0, a2)] m0) (fun v m => zi_I m ∧ zfr [(25, 3), (25, 5), (25, 9), (25, 10), (25, 11), (25, 12), (26, 1), (26, 2), (26, 3), (26, 4), (27, 1), (27, 2), (27, 3), (27, 4), (27, 5), (27, 6), (27, 7), (27, 8), (56, 0), (59, 1), (59, 2), (59, 3), (59, 4), (59, 5), (59, 6), (59, 7), (97, 0), (98, 0)] m0 m ∧ zE m 164 50 ∧ zE m 89 50 ∧ zgeo m 50 ∧ zR_K54 m ∧ ((-2147483648) ≤ v ∧ v ≤ 2147483647) ∧ (0 ≤ m 164 10 ∧ m 164 10 ≤ 2)) := by
  have hFm0 : zfr [(25, 3), (25, 5), (25, 9), (25, 10), (25, 11), (25, 12), (26, 1), (26, 2), (26, 3), (26, 4), (27, 1), (27, 2), (27, 3), (27, 4), (27, 5), (27, 6), (27, 7), (27, 8), (56, 0), (59, 1), (59, 2), (59, 3), (59, 4), (59, 5), (59, 6), (59, 7), (97, 0), (98, 0)] m0 m0 := zfr_rf _ _
  refine zw_eq (zu_call_at (zt_T n) (zm_299 n) (zdp_299 n) _ _ _ _ _ rfl (zr_299_0 n _ _ a0 a1 a2 m0)) ?_
  refine zw_bd (zw_mono (zk_22_25_16 n hIm0 zq_164 zq_89) (fun v2 m1 hqm1 => ?_))
  obtain ⟨hIm1, hfm1, hvm1⟩ := hqm1
  have hFm1 := zfr_tr hFm0 hfm1 rfl
  have hRE89m1 := zR_E89_fr (zdis_fr hfm1 rfl) hRE89m0
  have hRG5m1 := zR_G5_fr (zdis_fr hfm1 rfl) hRG5m0
  have hRK54m1 := zR_K54_fr (zdis_fr hfm1 rfl) hRK54m0
  have hRE164m1 : zE m1 164 50 := (hvm1.2.2) hRE89m0
  generalize hmm3 : zu_up m1 164 10 a1 = m3
  have hIm3 := zi_up hmm3 hIm1 zq_164 zb_25_10 (by omega) (by omega)
  have hFm3 := zfr_up hmm3 hFm1 zq_164 rfl
  have hRE164m3 := zR_E164_fr (zdis_fr (zfr_up hmm3 (zfr_rf [(25, 11)] _) zq_164 rfl) rfl) hRE164m1
  have hRE89m3 := zR_E89_fr (zdis_fr (zfr_up hmm3 (zfr_rf [(25, 11)] _) zq_164 rfl) rfl) hRE89m1
  have hRG5m3 := zR_G5_fr (zdis_fr (zfr_up hmm3 (zfr_rf [(25, 11)] _) zq_164 rfl) rfl) hRG5m1
  have hRK54m3 := zR_K54_fr (zdis_fr (zfr_up hmm3 (zfr_rf [(25, 11)] _) zq_164 rfl) rfl) hRK54m1
  have r4 : 0 ≤ (m3 164 8) ∧ (m3 164 8) ≤ 20000 := zi_rd hIm3 zq_164 zb_25_8
  have e5 : (m3 164 8) = (m1 164 8) := (zs_ne hmm3 (Or.inr (by decide)))
  refine zw_bd (zw_mono (zk_214_25 n hIm3 zq_164 ⟨by omega, by omega⟩ ⟨by decide, by decide⟩ (by omega) hRE164m3 hRG5m3 hRK54m3) (fun v7 m6 hqm6 => ?_))
  obtain ⟨hIm6, hfm6, hvm6⟩ := hqm6
  have hFm6 := zfr_tr hFm3 hfm6 rfl
  obtain ⟨hRE164m6, hRG5m6, hRK54m6, hvm6⟩ := hvm6
  have hRE89m6 := zR_E89_fr (zdis_fr hfm6 rfl) hRE89m3
  have r8 : 0 ≤ (m6 164 8) ∧ (m6 164 8) ≤ 20000 := zi_rd hIm6 zq_164 zb_25_8
  refine zw_bd (zw_mono (zk_240 n hIm6 zq_164) (fun v10 m9 hqm9 => ?_))
  obtain ⟨hIm9, hfm9, hvm9⟩ := hqm9
  have hFm9 := zfr_tr hFm6 hfm9 rfl
  have hRE164m9 := zR_E164_fr (zdis_fr hfm9 rfl) hRE164m6
  have hRE89m9 := zR_E89_fr (zdis_fr hfm9 rfl) hRE89m6
  have hRG5m9 := zR_G5_fr (zdis_fr hfm9 rfl) hRG5m6
  have hRK54m9 := zR_K54_fr (zdis_fr hfm9 rfl) hRK54m6
  have r11 : 0 ≤ (m9 164 10) ∧ (m9 164 10) ≤ 3 := zi_rd hIm9 zq_164 zb_25_10
  have e12 : (m9 164 10) = a1 := (Eq.trans (zfr_ap hfm9 zq_164 rfl) (Eq.trans (zfr_ap hfm6 zq_164 rfl) (zs_eq hmm3)))
  exact zw_some ⟨hIm9, hFm9, hRE164m9, hRE89m9, hRG5m9, hRK54m9, ⟨by omega, by omega⟩, ⟨by omega, by omega⟩⟩
set_option maxHeartbeats 4000000 in
theorem zl_302 (n : Nat) {a0 a1 a2 : Int} {m0 : zu_m} (hc0 : zcls a0 = 24)   : ∀ k : Nat, (∀ (x3 x4 : Int) (mh : zu_m), zi_I mh → zfr [(25, 3), (25, 5), (25, 9), (25, 10), (25, 11), (25, 12), (26, 1), (26, 2), (26, 3), (26, 4), (27, 1), (27, 2), (27, 3), (27, 4), (27, 5), (27, 6), (27, 7), (27, 8), (56, 0), (59, 1), (59, 2), (59, 3), (59, 4), (59, 5), (59, 6), (59, 7), (97, 0), (98, 0)] m0 mh → (0 ≤ a1 ∧ a1 ≤ 3) → (0 ≤ a2 ∧ a2 ≤ 30) → (0 ≤ x3 ∧ x3 ≤ 200) → (0 ≤ x4 ∧ x4 ≤ 200) → ((mh 164 8) ≤ 9999 + x4) → (zE mh 164 50) → (zE mh 63 50) → (zgeo mh 50) → (zR_K54 mh) → (200 - x4) * 1 + 0 < (k : Int) → zw (zu_ex (zt_T n) 302 35 [(33, a0), (0, a1), (0, a2), (0, x3), (0, x4)] [] mh) (fun v m => zi_I m ∧ zfr [(25, 3), (25, 5), (25, 9), (25, 10), (25, 11), (25, 12), (26, 1), (26, 2), (26, 3), (26, 4), (27, 1), (27, 2), (27, 3), (27, 4), (27, 5), (27, 6), (27, 7), (27, 8), (56, 0), (59, 1), (59, 2), (59, 3), (59, 4), (59, 5), (59, 6), (59, 7), (97, 0), (98, 0)] m0 m ∧ zE m 164 50 ∧ zE m 63 50 ∧ zgeo m 50 ∧ zR_K54 m ∧ (0 ≤ v ∧ v ≤ 1))) := by
  intro k
  induction k with
  | zero => exact fun x3 x4 mh hImh hFmh hba1 hba2 hbx3 hbx4 hH0 hRE164mh hRE63mh hRG5mh hRK54mh hM => by exfalso; omega
  | succ k ih =>
    intro x3 x4 mh hImh hFmh hba1 hba2 hbx3 hbx4 hH0 hRE164mh hRE63mh hRG5mh hRK54mh hM
    refine zw_eq (zu_rega_at (zt_T n) (zm_302 n) (zdp_302 n) _ _ _ _ _ _ (zr_302_35 n _ _ a0 a1 a2 x3 x4 mh)) ?_
    have r1 : 0 ≤ (mh 164 8) ∧ (mh 164 8) ≤ 20000 := zi_rd hImh zq_164 zb_25_8
    refine zw_ite (fun h2 => ?_) (fun h2 => ?_)
    · refine zw_b (by omega) ?_
      exact zw_some ⟨hImh, hFmh, hRE164mh, hRE63mh, hRG5mh, hRK54mh, ⟨by decide, by decide⟩⟩
    · refine zw_ite (fun h3 => ?_) (fun h3 => ?_)
      · exfalso; omega
      · refine zw_bd (zw_mono (zk_214_25 n hImh zq_164 ⟨by decide, by decide⟩ ⟨by decide, by decide⟩ (by omega) hRE164mh hRG5mh hRK54mh) (fun v5 m4 hqm4 => ?_))
        obtain ⟨hIm4, hfm4, hvm4⟩ := hqm4
        have hFm4 := zfr_tr hFmh hfm4 rfl
        obtain ⟨hRE164m4, hRG5m4, hRK54m4, hvm4⟩ := hvm4
        have hRE63m4 := zR_E63_fr (zdis_fr hfm4 rfl) hRE63mh
        have r6 : 0 ≤ (m4 164 8) ∧ (m4 164 8) ≤ 20000 := zi_rd hIm4 zq_164 zb_25_8
        refine zw_bd (zw_mono (zk_277 n hIm4 zq_141 zq_164) (fun v8 m7 hqm7 => ?_))
        obtain ⟨hIm7, hfm7, hvm7⟩ := hqm7
        have hFm7 := zfr_tr hFm4 hfm7 rfl
        have hRE164m7 := zR_E164_fr (zdis_fr hfm7 rfl) hRE164m4
        have hRE63m7 := zR_E63_fr (zdis_fr hfm7 rfl) hRE63m4
        have hRG5m7 := zR_G5_fr (zdis_fr hfm7 rfl) hRG5m4
        have hRK54m7 := zR_K54_fr (zdis_fr hfm7 rfl) hRK54m4
        refine zw_ite (fun h9 => ?_) (fun h9 => ?_)
        · have w10 := zu_w32_id (z := x4 + 1) (by omega) (by omega)
          have r11 : 0 ≤ (m7 164 8) ∧ (m7 164 8) ≤ 20000 := zi_rd hIm7 zq_164 zb_25_8
          have e12 : (m7 164 8) = (m4 164 8) := (zfr_ap hfm7 zq_164 rfl)
          have hM : (200 - (zu_w32 (x4 + 1))) * 1 + 0 < (k : Int) := by omega
          exact ih x3 (zu_w32 (x4 + 1)) m7 hIm7 hFm7 ⟨by omega, by omega⟩ ⟨by omega, by omega⟩ ⟨by omega, by omega⟩ ⟨by omega, by omega⟩ (by omega) hRE164m7 hRE63m7 hRG5m7 hRK54m7 hM
        · refine zw_b (by omega) ?_
          exact zw_some ⟨hIm7, hFm7, hRE164m7, hRE63m7, hRG5m7, hRK54m7, ⟨by decide, by decide⟩⟩
set_option maxHeartbeats 4000000 in
theorem zk_302 (n : Nat) {a0 a1 a2 : Int} {m0 : zu_m} (hIm0 : zi_I m0) (hc0 : zcls a0 = 24) (ha1 : 0 ≤ a1 ∧ a1 ≤ 3) (ha2 : 0 ≤ a2 ∧ a2 ≤ 30)    (hRE63m0 : zE m0 63 50) (hRG5m0 : zgeo m0 50) (hRK54m0 : zR_K54 m0) : zw (zu_call (zt_T n) 302 [(33, a0), (0, a1), (0, a2)] m0) (fun v m => zi_I m ∧ zfr [(25, 3), (25, 5), (25, 9), (25, 10), (25, 11), (25, 12), (26, 1), (26, 2), (26, 3), (26, 4), (27, 1), (27, 2), (27, 3), (27, 4), (27, 5), (27, 6), (27, 7), (27, 8), (56, 0), (59, 1), (59, 2), (59, 3), (59, 4), (59, 5), (59, 6), (59, 7), (97, 0), (98, 0)] m0 m ∧ zE m 164 50 ∧ zE m 63 50 ∧ zgeo m 50 ∧ zR_K54 m ∧ (0 ≤ v ∧ v ≤ 1)) := by
  have hFm0 : zfr [(25, 3), (25, 5), (25, 9), (25, 10), (25, 11), (25, 12), (26, 1), (26, 2), (26, 3), (26, 4), (27, 1), (27, 2), (27, 3), (27, 4), (27, 5), (27, 6), (27, 7), (27, 8), (56, 0), (59, 1), (59, 2), (59, 3), (59, 4), (59, 5), (59, 6), (59, 7), (97, 0), (98, 0)] m0 m0 := zfr_rf _ _
  refine zw_eq (zu_call_at (zt_T n) (zm_302 n) (zdp_302 n) _ _ _ _ _ rfl (zr_302_0 n _ _ a0 a1 a2 m0)) ?_
  refine zw_bd (zw_mono (zk_22_25_13 n hIm0 zq_164 zq_63) (fun v14 m13 hqm13 => ?_))
  obtain ⟨hIm13, hfm13, hvm13⟩ := hqm13
  have hFm13 := zfr_tr hFm0 hfm13 rfl
  have hRE63m13 := zR_E63_fr (zdis_fr hfm13 rfl) hRE63m0
  have hRG5m13 := zR_G5_fr (zdis_fr hfm13 rfl) hRG5m0
  have hRK54m13 := zR_K54_fr (zdis_fr hfm13 rfl) hRK54m0
  have hRE164m13 : zE m13 164 50 := (hvm13.2.2) hRE63m0
  have b15 : 0 ≤ a1 ∧ a1 < 4 := by omega
  refine zw_if b15 ?_
  generalize hmm16 : zu_up m13 ((164 + 2) + 20 + a1) 4 a2 = m16
  have hIm16 := zi_up hmm16 hIm13 (zc_96_e (zc_25_3 zq_164) b15) zb_27_4 (by omega) (by omega)
  have hFm16 := zfr_up hmm16 hFm13 (zc_96_e (zc_25_3 zq_164) b15) rfl
  have hRE164m16 := zR_E164_fr (zdis_fr (zfr_up hmm16 (zfr_rf [(27, 5)] _) (zc_96_e (zc_25_3 zq_164) b15) rfl) rfl) hRE164m13
  have hRE63m16 := zR_E63_fr (zdis_fr (zfr_up hmm16 (zfr_rf [(27, 5)] _) (zc_96_e (zc_25_3 zq_164) b15) rfl) rfl) hRE63m13
  have hRG5m16 := zR_G5_fr (zdis_fr (zfr_up hmm16 (zfr_rf [(27, 5)] _) (zc_96_e (zc_25_3 zq_164) b15) rfl) rfl) hRG5m13
  have hRK54m16 := zR_K54_fr (zdis_fr (zfr_up hmm16 (zfr_rf [(27, 5)] _) (zc_96_e (zc_25_3 zq_164) b15) rfl) rfl) hRK54m13
  refine zw_bd (zw_mono (zk_276 n hIm16 zq_141) (fun v18 m17 hqm17 => ?_))
  obtain ⟨hIm17, hfm17, hvm17⟩ := hqm17
  have hFm17 := zfr_tr hFm16 hfm17 rfl
  have hRE164m17 := zR_E164_fr (zdis_fr hfm17 rfl) hRE164m16
  have hRE63m17 := zR_E63_fr (zdis_fr hfm17 rfl) hRE63m16
  have hRG5m17 := zR_G5_fr (zdis_fr hfm17 rfl) hRG5m16
  have hRK54m17 := zR_K54_fr (zdis_fr hfm17 rfl) hRK54m16
  have r19 : 0 ≤ (m17 164 8) ∧ (m17 164 8) ≤ 20000 := zi_rd hIm17 zq_164 zb_25_8
  have e20 : (m17 164 8) = (m13 164 8) := (Eq.trans (zfr_ap hfm17 zq_164 rfl) (zs_ne hmm16 (Or.inl (zc_ne zq_164 (zc_96_e (zc_25_3 zq_164) b15) (by decide)))))
  have hM : (200 - 0) * 1 + 0 < ((201 : Nat) : Int) := by omega
  exact (zl_302 n (m0 := m0) hc0 201) v18 0 m17 hIm17 hFm17 ⟨by omega, by omega⟩ ⟨by omega, by omega⟩ ⟨by omega, by omega⟩ ⟨by omega, by omega⟩ (by omega) hRE164m17 hRE63m17 hRG5m17 hRK54m17 hM
set_option maxHeartbeats 4000000 in
theorem zl_303 (n : Nat) {a0 a1 a2 a3 a4 : Int} {m0 : zu_m} (hc0 : zcls a0 = 24)   : ∀ k : Nat, (∀ (x5 x6 x7 : Int) (mh : zu_m), zi_I mh → zfr [(25, 3), (25, 5), (25, 9), (25, 10), (25, 11), (25, 12), (26, 1), (26, 2), (26, 3), (26, 4), (27, 1), (27, 2), (27, 3), (27, 4), (27, 5), (27, 6), (27, 7), (27, 8), (56, 0), (59, 1), (59, 2), (59, 3), (59, 4), (59, 5), (59, 6), (59, 7), (97, 0), (98, 0)] m0 mh → (0 ≤ a1 ∧ a1 ≤ 2147483647) → (1 ≤ a2 ∧ a2 ≤ 200) → (0 ≤ a3 ∧ a3 ≤ 3) → (0 ≤ a4 ∧ a4 ≤ 16) → ((-2147483648) ≤ x5 ∧ x5 ≤ 2147483647) → ((-2147483648) ≤ x6 ∧ x6 ≤ 2147483647) → (0 ≤ x7 ∧ x7 ≤ 10) → (1 ≤ mh 89 4 ∧ mh 89 4 ≤ 4) → (zE mh 89 50) → (zgeo mh 50) → (zR_K54 mh) → (10 - x7) * 1 + 0 < (k : Int) → zw (zu_ex (zt_T n) 303 9 [(33, a0), (0, a1), (0, a2), (0, a3), (0, a4), (0, x5), (0, x6), (0, x7)] [] mh) (fun v m => zi_I m ∧ zfr [(25, 3), (25, 5), (25, 9), (25, 10), (25, 11), (25, 12), (26, 1), (26, 2), (26, 3), (26, 4), (27, 1), (27, 2), (27, 3), (27, 4), (27, 5), (27, 6), (27, 7), (27, 8), (56, 0), (59, 1), (59, 2), (59, 3), (59, 4), (59, 5), (59, 6), (59, 7), (97, 0), (98, 0)] m0 m ∧ zE m 89 50 ∧ zgeo m 50 ∧ zR_K54 m ∧ ((-2147483648) ≤ v ∧ v ≤ 2147483647))) := by
  intro k
  induction k with
  | zero => exact fun x5 x6 x7 mh hImh hFmh hba1 hba2 hba3 hba4 hbx5 hbx6 hbx7 hg7 hRE89mh hRG5mh hRK54mh hM => by exfalso; omega
  | succ k ih =>
    intro x5 x6 x7 mh hImh hFmh hba1 hba2 hba3 hba4 hbx5 hbx6 hbx7 hg7 hRE89mh hRG5mh hRK54mh hM
    refine zw_eq (zu_rega_at (zt_T n) (zm_303 n) (zdp_303 n) _ _ _ _ _ _ (zr_303_9 n _ _ a0 a1 a2 a3 a4 x5 x6 x7 mh)) ?_
    refine zw_ite (fun h1 => ?_) (fun h1 => ?_)
    · exact zw_some ⟨hImh, hFmh, hRE89mh, hRG5mh, hRK54mh, ⟨by omega, by omega⟩⟩
    · refine zw_bd (zw_mono (zk_22_25_16 n hImh zq_164 zq_89) (fun v3 m2 hqm2 => ?_))
      obtain ⟨hIm2, hfm2, hvm2⟩ := hqm2
      have hFm2 := zfr_tr hFmh hfm2 rfl
      have hRE89m2 := zR_E89_fr (zdis_fr hfm2 rfl) hRE89mh
      have hRG5m2 := zR_G5_fr (zdis_fr hfm2 rfl) hRG5mh
      have hRK54m2 := zR_K54_fr (zdis_fr hfm2 rfl) hRK54mh
      have hRE164m2 : zE m2 164 50 := (hvm2.2.2) hRE89mh
      generalize hmm4 : zu_up m2 164 9 x6 = m4
      have hIm4 := zi_up hmm4 hIm2 zq_164 zb_25_9 (by omega) (by omega)
      have hFm4 := zfr_up hmm4 hFm2 zq_164 rfl
      have hRE164m4 := zR_E164_fr (zdis_fr (zfr_up hmm4 (zfr_rf [(25, 10)] _) zq_164 rfl) rfl) hRE164m2
      have hRE89m4 := zR_E89_fr (zdis_fr (zfr_up hmm4 (zfr_rf [(25, 10)] _) zq_164 rfl) rfl) hRE89m2
      have hRG5m4 := zR_G5_fr (zdis_fr (zfr_up hmm4 (zfr_rf [(25, 10)] _) zq_164 rfl) rfl) hRG5m2
      have hRK54m4 := zR_K54_fr (zdis_fr (zfr_up hmm4 (zfr_rf [(25, 10)] _) zq_164 rfl) rfl) hRK54m2
      have r5 : 0 ≤ (m4 164 8) ∧ (m4 164 8) ≤ 20000 := zi_rd hIm4 zq_164 zb_25_8
      have e6 : (m4 164 8) = (m2 164 8) := (zs_ne hmm4 (Or.inr (by decide)))
      refine zw_bd (zw_mono (zk_214_25 n hIm4 zq_164 ⟨by omega, by omega⟩ ⟨by decide, by decide⟩ (by omega) hRE164m4 hRG5m4 hRK54m4) (fun v8 m7 hqm7 => ?_))
      obtain ⟨hIm7, hfm7, hvm7⟩ := hqm7
      have hFm7 := zfr_tr hFm4 hfm7 rfl
      obtain ⟨hRE164m7, hRG5m7, hRK54m7, hvm7⟩ := hvm7
      have hRE89m7 := zR_E89_fr (zdis_fr hfm7 rfl) hRE89m4
      have r9 : 0 ≤ (m7 164 8) ∧ (m7 164 8) ≤ 20000 := zi_rd hIm7 zq_164 zb_25_8
      have r10 : (-2147483648) ≤ (m7 164 9) ∧ (m7 164 9) ≤ 2147483647 := zi_rd hIm7 zq_164 zb_25_9
      have b11 : 0 ≤ a3 ∧ a3 < 4 := by omega
      refine zw_if b11 ?_
      have r12 : (-2147483648) ≤ (m7 ((164 + 2) + 20 + a3) 6) ∧ (m7 ((164 + 2) + 20 + a3) 6) ≤ 2147483647 := zi_rd hIm7 (zc_96_e (zc_25_3 zq_164) b11) zb_27_6
      refine zw_ite (fun h13 => ?_) (fun h13 => ?_)
      · have w14 := zu_w32_id (z := x7 + 1) (by omega) (by omega)
        have r15 : 0 ≤ (m7 89 4) ∧ (m7 89 4) ≤ 4 := zi_rd hIm7 zq_89 zb_16_4
        have e16 : (m7 89 4) = (mh 89 4) := (Eq.trans (zfr_ap hfm7 zq_89 rfl) (Eq.trans (zs_ne hmm4 (Or.inl (zc_ne zq_89 zq_164 (by decide)))) (zfr_ap hfm2 zq_89 rfl)))
        have hM : (10 - (zu_w32 (x7 + 1))) * 1 + 0 < (k : Int) := by omega
        exact ih x5 (m7 164 9) (zu_w32 (x7 + 1)) m7 hIm7 hFm7 ⟨by omega, by omega⟩ ⟨by omega, by omega⟩ ⟨by omega, by omega⟩ ⟨by omega, by omega⟩ ⟨by omega, by omega⟩ ⟨by omega, by omega⟩ ⟨by omega, by omega⟩ ⟨by omega, by omega⟩ hRE89m7 hRG5m7 hRK54m7 hM
      · have w17 := zu_w32_rg (x5 + 1)
        have w18 := zu_w32_id (z := x7 + 1) (by omega) (by omega)
        have r19 : 0 ≤ (m7 89 4) ∧ (m7 89 4) ≤ 4 := zi_rd hIm7 zq_89 zb_16_4
        have e20 : (m7 89 4) = (mh 89 4) := (Eq.trans (zfr_ap hfm7 zq_89 rfl) (Eq.trans (zs_ne hmm4 (Or.inl (zc_ne zq_89 zq_164 (by decide)))) (zfr_ap hfm2 zq_89 rfl)))
        have hM : (10 - (zu_w32 (x7 + 1))) * 1 + 0 < (k : Int) := by omega
        exact ih (zu_w32 (x5 + 1)) (m7 164 9) (zu_w32 (x7 + 1)) m7 hIm7 hFm7 ⟨by omega, by omega⟩ ⟨by omega, by omega⟩ ⟨by omega, by omega⟩ ⟨by omega, by omega⟩ ⟨by omega, by omega⟩ ⟨by omega, by omega⟩ ⟨by omega, by omega⟩ ⟨by omega, by omega⟩ hRE89m7 hRG5m7 hRK54m7 hM
set_option maxHeartbeats 4000000 in
theorem zk_303 (n : Nat) {a0 a1 a2 a3 a4 : Int} {m0 : zu_m} (hIm0 : zi_I m0) (hc0 : zcls a0 = 24) (ha1 : 0 ≤ a1 ∧ a1 ≤ 2147483647) (ha2 : 1 ≤ a2 ∧ a2 ≤ 200) (ha3 : 0 ≤ a3 ∧ a3 ≤ 3) (ha4 : 0 ≤ a4 ∧ a4 ≤ 16)  (he0 : 1 ≤ m0 89 4 ∧ m0 89 4 ≤ 4)  (hRE89m0 : zE m0 89 50) (hRG5m0 : zgeo m0 50) (hRK54m0 : zR_K54 m0) : zw (zu_call (zt_T n) 303 [(33, a0), (0, a1), (0, a2), (0, a3), (0, a4)] m0) (fun v m => zi_I m ∧ zfr [(25, 3), (25, 5), (25, 9), (25, 10), (25, 11), (25, 12), (26, 1), (26, 2), (26, 3), (26, 4), (27, 1), (27, 2), (27, 3), (27, 4), (27, 5), (27, 6), (27, 7), (27, 8), (56, 0), (59, 1), (59, 2), (59, 3), (59, 4), (59, 5), (59, 6), (59, 7), (97, 0), (98, 0)] m0 m ∧ zE m 89 50 ∧ zgeo m 50 ∧ zR_K54 m ∧ ((-2147483648) ≤ v ∧ v ≤ 2147483647)) := by
  have hFm0 : zfr [(25, 3), (25, 5), (25, 9), (25, 10), (25, 11), (25, 12), (26, 1), (26, 2), (26, 3), (26, 4), (27, 1), (27, 2), (27, 3), (27, 4), (27, 5), (27, 6), (27, 7), (27, 8), (56, 0), (59, 1), (59, 2), (59, 3), (59, 4), (59, 5), (59, 6), (59, 7), (97, 0), (98, 0)] m0 m0 := zfr_rf _ _
  refine zw_eq (zu_call_at (zt_T n) (zm_303 n) (zdp_303 n) _ _ _ _ _ rfl (zr_303_0 n _ _ a0 a1 a2 a3 a4 m0)) ?_
  have hM : (10 - 0) * 1 + 0 < ((11 : Nat) : Int) := by omega
  exact (zl_303 n (m0 := m0) hc0 11) 0 a1 0 m0 hIm0 hFm0 ⟨by omega, by omega⟩ ⟨by omega, by omega⟩ ⟨by omega, by omega⟩ ⟨by omega, by omega⟩ ⟨by omega, by omega⟩ ⟨by omega, by omega⟩ ⟨by omega, by omega⟩ ⟨by omega, by omega⟩ hRE89m0 hRG5m0 hRK54m0 hM
set_option maxHeartbeats 4000000 in
theorem zl_304 (n : Nat) {a0 a1 a2 a3 : Int} {m0 : zu_m} (hc0 : zcls a0 = 24)   : ∀ k : Nat, (∀ (x4 : Int) (mh : zu_m), zi_I mh → zfr [(25, 3), (25, 5), (25, 9), (25, 10), (25, 11), (25, 12), (26, 1), (26, 2), (26, 3), (26, 4), (27, 1), (27, 2), (27, 3), (27, 4), (27, 5), (27, 6), (27, 7), (27, 8), (56, 0), (59, 1), (59, 2), (59, 3), (59, 4), (59, 5), (59, 6), (59, 7), (97, 0), (98, 0)] m0 mh → (0 ≤ a1 ∧ a1 ≤ 4) → (0 ≤ a2 ∧ a2 ≤ 3) → (0 ≤ a3 ∧ a3 ≤ 200) → (0 ≤ x4 ∧ x4 ≤ 4) → (0 ≤ mh 164 8 ∧ mh 164 8 ≤ 9999) → (zE mh 164 50) → (zE mh 89 50) → (zgeo mh 50) → (zR_K54 mh) → (4 - x4) * 1 + 0 < (k : Int) → zw (zu_ex (zt_T n) 304 28 [(33, a0), (0, a1), (0, a2), (0, a3), (0, x4), (2, 0)] [] mh) (fun v m => zi_I m ∧ zfr [(25, 3), (25, 5), (25, 9), (25, 10), (25, 11), (25, 12), (26, 1), (26, 2), (26, 3), (26, 4), (27, 1), (27, 2), (27, 3), (27, 4), (27, 5), (27, 6), (27, 7), (27, 8), (56, 0), (59, 1), (59, 2), (59, 3), (59, 4), (59, 5), (59, 6), (59, 7), (97, 0), (98, 0)] m0 m ∧ zE m 164 50 ∧ zE m 89 50 ∧ zgeo m 50 ∧ zR_K54 m ∧ ((-2147483648) ≤ v ∧ v ≤ 2147483647))) := by
  intro k
  induction k with
  | zero => exact fun x4 mh hImh hFmh hba1 hba2 hba3 hbx4 hg4 hRE164mh hRE89mh hRG5mh hRK54mh hM => by exfalso; omega
  | succ k ih =>
    intro x4 mh hImh hFmh hba1 hba2 hba3 hbx4 hg4 hRE164mh hRE89mh hRG5mh hRK54mh hM
    refine zw_eq (zu_rega_at (zt_T n) (zm_304 n) (zdp_304 n) _ _ _ _ _ _ (zr_304_28 n _ _ a0 a1 a2 a3 x4 mh)) ?_
    have r1 : 0 ≤ (mh 164 4) ∧ (mh 164 4) ≤ 4 := zi_rd hImh zq_164 zb_25_4
    refine zw_ite (fun h2 => ?_) (fun h2 => ?_)
    · refine zw_bd (zw_mono (zk_214_25 n hImh zq_164 ⟨by omega, by omega⟩ ⟨by decide, by decide⟩ (by omega) hRE164mh hRG5mh hRK54mh) (fun v4 m3 hqm3 => ?_))
      obtain ⟨hIm3, hfm3, hvm3⟩ := hqm3
      have hFm3 := zfr_tr hFmh hfm3 rfl
      obtain ⟨hRE164m3, hRG5m3, hRK54m3, hvm3⟩ := hvm3
      have hRE89m3 := zR_E89_fr (zdis_fr hfm3 rfl) hRE89mh
      have r5 : 0 ≤ (m3 164 8) ∧ (m3 164 8) ≤ 20000 := zi_rd hIm3 zq_164 zb_25_8
      refine zw_bd (zw_mono (zk_234_25 n hIm3 zq_164) (fun v7 m6 hqm6 => ?_))
      obtain ⟨hIm6, hfm6, hvm6⟩ := hqm6
      have hFm6 := zfr_tr hFm3 hfm6 rfl
      have hRE164m6 := zR_E164_fr (zdis_fr hfm6 rfl) hRE164m3
      have hRE89m6 := zR_E89_fr (zdis_fr hfm6 rfl) hRE89m3
      have hRG5m6 := zR_G5_fr (zdis_fr hfm6 rfl) hRG5m3
      have hRK54m6 := zR_K54_fr (zdis_fr hfm6 rfl) hRK54m3
      exact zw_some ⟨hIm6, hFm6, hRE164m6, hRE89m6, hRG5m6, hRK54m6, ⟨by omega, by omega⟩⟩
    · have b8 : 0 ≤ x4 ∧ x4 < 4 := by omega
      refine zw_if b8 ?_
      refine zw_ite (fun h9 => ?_) (fun h9 => ?_)
      · refine zw_ite (fun h10 => ?_) (fun h10 => ?_)
        · refine zw_ite (fun h11 => ?_) (fun h11 => ?_)
          · refine zw_ite (fun h12 => ?_) (fun h12 => ?_)
            · have w13 := zu_w32_id (z := x4 + 1) (by omega) (by omega)
              have hM : (4 - (zu_w32 (x4 + 1))) * 1 + 0 < (k : Int) := by omega
              exact zw_le (zu_forget (zu_lr_same (zu_lr_same (zu_lr_same (zu_lr_same (zu_lr_same (zu_lr_drop zu_lr_nil))))))) (ih (zu_w32 (x4 + 1)) mh hImh hFmh ⟨by omega, by omega⟩ ⟨by omega, by omega⟩ ⟨by omega, by omega⟩ ⟨by omega, by omega⟩ ⟨by omega, by omega⟩ hRE164mh hRE89mh hRG5mh hRK54mh hM)
            · generalize hmm14 : zu_up mh ((164 + 2) + 20 + x4) 3 0 = m14
              have hIm14 := zi_up hmm14 hImh (zc_96_e (zc_25_3 zq_164) b8) zb_27_3 (by omega) (by omega)
              have hFm14 := zfr_up hmm14 hFmh (zc_96_e (zc_25_3 zq_164) b8) rfl
              have hRE164m14 := zR_E164_fr (zdis_fr (zfr_up hmm14 (zfr_rf [(27, 4)] _) (zc_96_e (zc_25_3 zq_164) b8) rfl) rfl) hRE164mh
              have hRE89m14 := zR_E89_fr (zdis_fr (zfr_up hmm14 (zfr_rf [(27, 4)] _) (zc_96_e (zc_25_3 zq_164) b8) rfl) rfl) hRE89mh
              have hRG5m14 := zR_G5_fr (zdis_fr (zfr_up hmm14 (zfr_rf [(27, 4)] _) (zc_96_e (zc_25_3 zq_164) b8) rfl) rfl) hRG5mh
              have hRK54m14 := zR_K54_fr (zdis_fr (zfr_up hmm14 (zfr_rf [(27, 4)] _) (zc_96_e (zc_25_3 zq_164) b8) rfl) rfl) hRK54mh
              have w15 := zu_w32_id (z := x4 + 1) (by omega) (by omega)
              have r16 : 0 ≤ (m14 164 8) ∧ (m14 164 8) ≤ 20000 := zi_rd hIm14 zq_164 zb_25_8
              have e17 : (m14 164 8) = (mh 164 8) := (zs_ne hmm14 (Or.inl (zc_ne zq_164 (zc_96_e (zc_25_3 zq_164) b8) (by decide))))
              have hM : (4 - (zu_w32 (x4 + 1))) * 1 + 0 < (k : Int) := by omega
              exact zw_le (zu_forget (zu_lr_same (zu_lr_same (zu_lr_same (zu_lr_same (zu_lr_same (zu_lr_drop zu_lr_nil))))))) (ih (zu_w32 (x4 + 1)) m14 hIm14 hFm14 ⟨by omega, by omega⟩ ⟨by omega, by omega⟩ ⟨by omega, by omega⟩ ⟨by omega, by omega⟩ ⟨by omega, by omega⟩ hRE164m14 hRE89m14 hRG5m14 hRK54m14 hM)
          · generalize hmm18 : zu_up mh ((164 + 2) + 20 + x4) 4 0 = m18
            have hIm18 := zi_up hmm18 hImh (zc_96_e (zc_25_3 zq_164) b8) zb_27_4 (by omega) (by omega)
            have hFm18 := zfr_up hmm18 hFmh (zc_96_e (zc_25_3 zq_164) b8) rfl
            have hRE164m18 := zR_E164_fr (zdis_fr (zfr_up hmm18 (zfr_rf [(27, 5)] _) (zc_96_e (zc_25_3 zq_164) b8) rfl) rfl) hRE164mh
            have hRE89m18 := zR_E89_fr (zdis_fr (zfr_up hmm18 (zfr_rf [(27, 5)] _) (zc_96_e (zc_25_3 zq_164) b8) rfl) rfl) hRE89mh
            have hRG5m18 := zR_G5_fr (zdis_fr (zfr_up hmm18 (zfr_rf [(27, 5)] _) (zc_96_e (zc_25_3 zq_164) b8) rfl) rfl) hRG5mh
            have hRK54m18 := zR_K54_fr (zdis_fr (zfr_up hmm18 (zfr_rf [(27, 5)] _) (zc_96_e (zc_25_3 zq_164) b8) rfl) rfl) hRK54mh
            have w19 := zu_w32_id (z := x4 + 1) (by omega) (by omega)
            have r20 : 0 ≤ (m18 164 8) ∧ (m18 164 8) ≤ 20000 := zi_rd hIm18 zq_164 zb_25_8
            have e21 : (m18 164 8) = (mh 164 8) := (zs_ne hmm18 (Or.inl (zc_ne zq_164 (zc_96_e (zc_25_3 zq_164) b8) (by decide))))
            have hM : (4 - (zu_w32 (x4 + 1))) * 1 + 0 < (k : Int) := by omega
            exact zw_le (zu_forget (zu_lr_same (zu_lr_same (zu_lr_same (zu_lr_same (zu_lr_same (zu_lr_drop zu_lr_nil))))))) (ih (zu_w32 (x4 + 1)) m18 hIm18 hFm18 ⟨by omega, by omega⟩ ⟨by omega, by omega⟩ ⟨by omega, by omega⟩ ⟨by omega, by omega⟩ ⟨by omega, by omega⟩ hRE164m18 hRE89m18 hRG5m18 hRK54m18 hM)
        · refine zw_ite (fun h22 => ?_) (fun h22 => ?_)
          · refine zw_ite (fun h23 => ?_) (fun h23 => ?_)
            · refine zw_ite (fun h24 => ?_) (fun h24 => ?_)
              · have w25 := zu_w32_id (z := x4 + 1) (by omega) (by omega)
                have hM : (4 - (zu_w32 (x4 + 1))) * 1 + 0 < (k : Int) := by omega
                exact zw_le (zu_forget (zu_lr_same (zu_lr_same (zu_lr_same (zu_lr_same (zu_lr_same (zu_lr_drop zu_lr_nil))))))) (ih (zu_w32 (x4 + 1)) mh hImh hFmh ⟨by omega, by omega⟩ ⟨by omega, by omega⟩ ⟨by omega, by omega⟩ ⟨by omega, by omega⟩ ⟨by omega, by omega⟩ hRE164mh hRE89mh hRG5mh hRK54mh hM)
              · exfalso; omega
            · exfalso; omega
          · generalize hmm26 : zu_up mh ((164 + 2) + 20 + x4) 4 1000000 = m26
            have hIm26 := zi_up hmm26 hImh (zc_96_e (zc_25_3 zq_164) b8) zb_27_4 (by omega) (by omega)
            have hFm26 := zfr_up hmm26 hFmh (zc_96_e (zc_25_3 zq_164) b8) rfl
            have hRE164m26 := zR_E164_fr (zdis_fr (zfr_up hmm26 (zfr_rf [(27, 5)] _) (zc_96_e (zc_25_3 zq_164) b8) rfl) rfl) hRE164mh
            have hRE89m26 := zR_E89_fr (zdis_fr (zfr_up hmm26 (zfr_rf [(27, 5)] _) (zc_96_e (zc_25_3 zq_164) b8) rfl) rfl) hRE89mh
            have hRG5m26 := zR_G5_fr (zdis_fr (zfr_up hmm26 (zfr_rf [(27, 5)] _) (zc_96_e (zc_25_3 zq_164) b8) rfl) rfl) hRG5mh
            have hRK54m26 := zR_K54_fr (zdis_fr (zfr_up hmm26 (zfr_rf [(27, 5)] _) (zc_96_e (zc_25_3 zq_164) b8) rfl) rfl) hRK54mh
            have w27 := zu_w32_id (z := x4 + 1) (by omega) (by omega)
            have r28 : 0 ≤ (m26 164 8) ∧ (m26 164 8) ≤ 20000 := zi_rd hIm26 zq_164 zb_25_8
            have e29 : (m26 164 8) = (mh 164 8) := (zs_ne hmm26 (Or.inl (zc_ne zq_164 (zc_96_e (zc_25_3 zq_164) b8) (by decide))))
            have hM : (4 - (zu_w32 (x4 + 1))) * 1 + 0 < (k : Int) := by omega
            exact zw_le (zu_forget (zu_lr_same (zu_lr_same (zu_lr_same (zu_lr_same (zu_lr_same (zu_lr_drop zu_lr_nil))))))) (ih (zu_w32 (x4 + 1)) m26 hIm26 hFm26 ⟨by omega, by omega⟩ ⟨by omega, by omega⟩ ⟨by omega, by omega⟩ ⟨by omega, by omega⟩ ⟨by omega, by omega⟩ hRE164m26 hRE89m26 hRG5m26 hRK54m26 hM)
      · generalize hmm30 : zu_up mh ((164 + 2) + 20 + x4) 2 11 = m30
        have hIm30 := zi_up hmm30 hImh (zc_96_e (zc_25_3 zq_164) b8) zb_27_2 (by omega) (by omega)
        have hFm30 := zfr_up hmm30 hFmh (zc_96_e (zc_25_3 zq_164) b8) rfl
        have hRE164m30 := zR_E164_fr (zdis_fr (zfr_up hmm30 (zfr_rf [(27, 3)] _) (zc_96_e (zc_25_3 zq_164) b8) rfl) rfl) hRE164mh
        have hRE89m30 := zR_E89_fr (zdis_fr (zfr_up hmm30 (zfr_rf [(27, 3)] _) (zc_96_e (zc_25_3 zq_164) b8) rfl) rfl) hRE89mh
        have hRG5m30 := zR_G5_fr (zdis_fr (zfr_up hmm30 (zfr_rf [(27, 3)] _) (zc_96_e (zc_25_3 zq_164) b8) rfl) rfl) hRG5mh
        have hRK54m30 := zR_K54_fr (zdis_fr (zfr_up hmm30 (zfr_rf [(27, 3)] _) (zc_96_e (zc_25_3 zq_164) b8) rfl) rfl) hRK54mh
        have w31 := zu_w32_id (z := x4 + 1) (by omega) (by omega)
        have r32 : 0 ≤ (m30 164 8) ∧ (m30 164 8) ≤ 20000 := zi_rd hIm30 zq_164 zb_25_8
        have e33 : (m30 164 8) = (mh 164 8) := (zs_ne hmm30 (Or.inl (zc_ne zq_164 (zc_96_e (zc_25_3 zq_164) b8) (by decide))))
        have hM : (4 - (zu_w32 (x4 + 1))) * 1 + 0 < (k : Int) := by omega
        exact zw_le (zu_forget (zu_lr_same (zu_lr_same (zu_lr_same (zu_lr_same (zu_lr_same (zu_lr_drop zu_lr_nil))))))) (ih (zu_w32 (x4 + 1)) m30 hIm30 hFm30 ⟨by omega, by omega⟩ ⟨by omega, by omega⟩ ⟨by omega, by omega⟩ ⟨by omega, by omega⟩ ⟨by omega, by omega⟩ hRE164m30 hRE89m30 hRG5m30 hRK54m30 hM)
set_option maxHeartbeats 4000000 in
theorem zk_304 (n : Nat) {a0 a1 a2 a3 : Int} {m0 : zu_m} (hIm0 : zi_I m0) (hc0 : zcls a0 = 24) (ha1 : 0 ≤ a1 ∧ a1 ≤ 4) (ha2 : 0 ≤ a2 ∧ a2 ≤ 3) (ha3 : 0 ≤ a3 ∧ a3 ≤ 200)    (hRE89m0 : zE m0 89 50) (hRG5m0 : zgeo m0 50) (hRK54m0 : zR_K54 m0) : zw (zu_call (zt_T n) 304 [(33, a0), (0, a1), (0, a2), (0, a3)] m0) (fun v m => zi_I m ∧ zfr [(25, 3), (25, 5), (25, 9), (25, 10), (25, 11), (25, 12), (26, 1), (26, 2), (26, 3), (26, 4), (27, 1), (27, 2), (27, 3), (27, 4), (27, 5), (27, 6), (27, 7), (27, 8), (56, 0), (59, 1), (59, 2), (59, 3), (59, 4), (59, 5), (59, 6), (59, 7), (97, 0), (98, 0)] m0 m ∧ zE m 164 50 ∧ zE m 89 50 ∧ zgeo m 50 ∧ zR_K54 m ∧ ((-2147483648) ≤ v ∧ v ≤ 2147483647)) := by
  have hFm0 : zfr [(25, 3), (25, 5), (25, 9), (25, 10), (25, 11), (25, 12), (26, 1), (26, 2), (26, 3), (26, 4), (27, 1), (27, 2), (27, 3), (27, 4), (27, 5), (27, 6), (27, 7), (27, 8), (56, 0), (59, 1), (59, 2), (59, 3), (59, 4), (59, 5), (59, 6), (59, 7), (97, 0), (98, 0)] m0 m0 := zfr_rf _ _
  refine zw_eq (zu_call_at (zt_T n) (zm_304 n) (zdp_304 n) _ _ _ _ _ rfl (zr_304_0 n _ _ a0 a1 a2 a3 m0)) ?_
  refine zw_bd (zw_mono (zk_22_25_16 n hIm0 zq_164 zq_89) (fun v35 m34 hqm34 => ?_))
  obtain ⟨hIm34, hfm34, hvm34⟩ := hqm34
  have hFm34 := zfr_tr hFm0 hfm34 rfl
  have hRE89m34 := zR_E89_fr (zdis_fr hfm34 rfl) hRE89m0
  have hRG5m34 := zR_G5_fr (zdis_fr hfm34 rfl) hRG5m0
  have hRK54m34 := zR_K54_fr (zdis_fr hfm34 rfl) hRK54m0
  have hRE164m34 : zE m34 164 50 := (hvm34.2.2) hRE89m0
  refine zw_ite (fun h36 => ?_) (fun h36 => ?_)
  · have hM : (4 - 0) * 1 + 0 < ((5 : Nat) : Int) := by omega
    exact (zl_304 n (m0 := m0) hc0 5) 0 m34 hIm34 hFm34 ⟨by omega, by omega⟩ ⟨by omega, by omega⟩ ⟨by omega, by omega⟩ ⟨by omega, by omega⟩ ⟨by omega, by omega⟩ hRE164m34 hRE89m34 hRG5m34 hRK54m34 hM
  · generalize hmm37 : zu_up m34 164 11 1000000 = m37
    have hIm37 := zi_up hmm37 hIm34 zq_164 zb_25_11 (by omega) (by omega)
    have hFm37 := zfr_up hmm37 hFm34 zq_164 rfl
    have hRE164m37 := zR_E164_fr (zdis_fr (zfr_up hmm37 (zfr_rf [(25, 12)] _) zq_164 rfl) rfl) hRE164m34
    have hRE89m37 := zR_E89_fr (zdis_fr (zfr_up hmm37 (zfr_rf [(25, 12)] _) zq_164 rfl) rfl) hRE89m34
    have hRG5m37 := zR_G5_fr (zdis_fr (zfr_up hmm37 (zfr_rf [(25, 12)] _) zq_164 rfl) rfl) hRG5m34
    have hRK54m37 := zR_K54_fr (zdis_fr (zfr_up hmm37 (zfr_rf [(25, 12)] _) zq_164 rfl) rfl) hRK54m34
    have r38 : 0 ≤ (m37 164 8) ∧ (m37 164 8) ≤ 20000 := zi_rd hIm37 zq_164 zb_25_8
    have e39 : (m37 164 8) = (m34 164 8) := (zs_ne hmm37 (Or.inr (by decide)))
    have hM : (4 - 0) * 1 + 0 < ((5 : Nat) : Int) := by omega
    exact (zl_304 n (m0 := m0) hc0 5) 0 m37 hIm37 hFm37 ⟨by omega, by omega⟩ ⟨by omega, by omega⟩ ⟨by omega, by omega⟩ ⟨by omega, by omega⟩ ⟨by omega, by omega⟩ hRE164m37 hRE89m37 hRG5m37 hRK54m37 hM
set_option maxHeartbeats 4000000 in
theorem zl_12 (n : Nat) {a0 a1 : Int} {m0 : zu_m} (hc0 : zcls a0 = 3)   : ∀ k : Nat, (∀ (x2 x3 : Int) (mh : zu_m), zi_I mh → zfr [(3, 5), (3, 6), (3, 7), (3, 8), (3, 9), (3, 10), (3, 11), (4, 1), (4, 2), (4, 3), (4, 4), (4, 5), (4, 6), (5, 6), (5, 7), (6, 3), (6, 5), (6, 9), (6, 10), (6, 11), (6, 12), (7, 1), (7, 2), (7, 3), (7, 4), (8, 1), (8, 2), (8, 3), (8, 4), (8, 5), (8, 6), (8, 7), (9, 3), (9, 4), (9, 5), (9, 6), (9, 7), (10, 4), (10, 5), (10, 7), (10, 8), (30, 0), (31, 0), (32, 0), (33, 0), (34, 0), (35, 0), (36, 0), (43, 0), (44, 0), (47, 0), (48, 0)] m0 mh → (0 ≤ a1 ∧ a1 ≤ 700) → ((-2147483648) ≤ x2 ∧ x2 ≤ 2147483647) → (0 ≤ x3 ∧ x3 ≤ 701) → (0 ≤ mh 19 9 ∧ mh 19 9 ≤ 0) → (zR_BN mh) → ((mh 5 6 = 0 → mh 19 4 = 0)) → (zE mh 19 6) → ((mh 6 2 = mh 6 0 * mh 6 1)) → (zR_K10 mh) → (701 - x3) * 1 + 0 < (k : Int) → zw (zu_ex (zt_T n) 12 51 [(7, a0), (0, a1), (0, x2), (0, x3)] [] mh) (fun v m => zi_I m ∧ zfr [(3, 5), (3, 6), (3, 7), (3, 8), (3, 9), (3, 10), (3, 11), (4, 1), (4, 2), (4, 3), (4, 4), (4, 5), (4, 6), (5, 6), (5, 7), (6, 3), (6, 5), (6, 9), (6, 10), (6, 11), (6, 12), (7, 1), (7, 2), (7, 3), (7, 4), (8, 1), (8, 2), (8, 3), (8, 4), (8, 5), (8, 6), (8, 7), (9, 3), (9, 4), (9, 5), (9, 6), (9, 7), (10, 4), (10, 5), (10, 7), (10, 8), (30, 0), (31, 0), (32, 0), (33, 0), (34, 0), (35, 0), (36, 0), (43, 0), (44, 0), (47, 0), (48, 0)] m0 m ∧ zR_BN m ∧ (m 5 6 = 0 → m 19 4 = 0) ∧ zE m 19 6 ∧ (m 6 2 = m 6 0 * m 6 1) ∧ zR_K10 m ∧ ((-2147483648) ≤ v ∧ v ≤ 2147483647) ∧ (0 ≤ m 19 9 ∧ m 19 9 ≤ 99999))) := by
  intro k
  induction k with
  | zero => exact fun x2 x3 mh hImh hFmh hba1 hbx2 hbx3 hg3 hRBNmh hRCTmh hRE19mh hRG6mh hRK10mh hM => by exfalso; omega
  | succ k ih =>
    intro x2 x3 mh hImh hFmh hba1 hbx2 hbx3 hg3 hRBNmh hRCTmh hRE19mh hRG6mh hRK10mh hM
    refine zw_eq (zu_rega_at (zt_T n) (zm_12 n) (zdp_12 n) _ _ _ _ _ _ (zr_12_51 n _ _ a0 a1 x2 x3 mh)) ?_
    refine zw_ite (fun h1 => ?_) (fun h1 => ?_)
    · have r2 : 0 ≤ (mh 6 5) ∧ (mh 6 5) ≤ 99999 := zi_rd hImh zq_6 zb_4_5
      generalize hmm3 : zu_up mh 19 9 (mh 6 5) = m3
      have hIm3 := zi_up hmm3 hImh zq_19 zb_6_9 (by omega) (by omega)
      have hFm3 := zfr_up hmm3 hFmh zq_19 rfl
      have hRBNm3 := zR_BN_fr (zdis_fr (zfr_up hmm3 (zfr_rf [(6, 10)] _) zq_19 rfl) rfl) hRBNmh
      have hRCTm3 := zR_CT_fr (zdis_fr (zfr_up hmm3 (zfr_rf [(6, 10)] _) zq_19 rfl) rfl) hRCTmh
      have hRE19m3 := zR_E19_fr (zdis_fr (zfr_up hmm3 (zfr_rf [(6, 10)] _) zq_19 rfl) rfl) hRE19mh
      have hRG6m3 := zR_G6_fr (zdis_fr (zfr_up hmm3 (zfr_rf [(6, 10)] _) zq_19 rfl) rfl) hRG6mh
      have hRK10m3 := zR_K10_fr (zdis_fr (zfr_up hmm3 (zfr_rf [(6, 10)] _) zq_19 rfl) rfl) hRK10mh
      have r4 : (-2147483648) ≤ (m3 19 9) ∧ (m3 19 9) ≤ 2147483647 := zi_rd hIm3 zq_19 zb_6_9
      have e5 : (m3 19 9) = (mh 6 5) := (zs_eq hmm3)
      exact zw_some ⟨hIm3, hFm3, hRBNm3, hRCTm3, hRE19m3, hRG6m3, hRK10m3, ⟨by omega, by omega⟩, ⟨by omega, by omega⟩⟩
    · refine zw_bd (zw_mono (zk_18 n hImh zq_45) (fun v7 m6 hqm6 => ?_))
      obtain ⟨hIm6, hfm6, hvm6⟩ := hqm6
      have hFm6 := zfr_tr hFmh hfm6 rfl
      obtain ⟨hRTVm6, hvm6⟩ := hvm6
      have hRBNm6 := zR_BN_fr (zdis_fr hfm6 rfl) hRBNmh
      have hRCTm6 := zR_CT_fr (zdis_fr hfm6 rfl) hRCTmh
      have hRE19m6 := zR_E19_fr (zdis_fr hfm6 rfl) hRE19mh
      have hRG6m6 := zR_G6_fr (zdis_fr hfm6 rfl) hRG6mh
      have hRK10m6 := zR_K10_fr (zdis_fr hfm6 rfl) hRK10mh
      have s8 := hRTVm6 45 zq_45
      have r9 : 0 ≤ (m6 45 4) ∧ (m6 45 4) ≤ 5 := zi_rd hIm6 zq_45 zb_9_4
      refine zw_ite (fun h10 => ?_) (fun h10 => ?_)
      · have r11 : 0 ≤ (m6 6 5) ∧ (m6 6 5) ≤ 99999 := zi_rd hIm6 zq_6 zb_4_5
        generalize hmm12 : zu_up m6 19 9 (m6 6 5) = m12
        have hIm12 := zi_up hmm12 hIm6 zq_19 zb_6_9 (by omega) (by omega)
        have hFm12 := zfr_up hmm12 hFm6 zq_19 rfl
        have hRBNm12 := zR_BN_fr (zdis_fr (zfr_up hmm12 (zfr_rf [(6, 10)] _) zq_19 rfl) rfl) hRBNm6
        have hRCTm12 := zR_CT_fr (zdis_fr (zfr_up hmm12 (zfr_rf [(6, 10)] _) zq_19 rfl) rfl) hRCTm6
        have hRE19m12 := zR_E19_fr (zdis_fr (zfr_up hmm12 (zfr_rf [(6, 10)] _) zq_19 rfl) rfl) hRE19m6
        have hRG6m12 := zR_G6_fr (zdis_fr (zfr_up hmm12 (zfr_rf [(6, 10)] _) zq_19 rfl) rfl) hRG6m6
        have hRK10m12 := zR_K10_fr (zdis_fr (zfr_up hmm12 (zfr_rf [(6, 10)] _) zq_19 rfl) rfl) hRK10m6
        have hRTVm12 := zR_TV_fr (zdis_fr (zfr_up hmm12 (zfr_rf [(6, 10)] _) zq_19 rfl) rfl) hRTVm6
        have r13 : (-2147483648) ≤ (m12 19 9) ∧ (m12 19 9) ≤ 2147483647 := zi_rd hIm12 zq_19 zb_6_9
        have e14 : (m12 19 9) = (m6 6 5) := (zs_eq hmm12)
        exact zw_some ⟨hIm12, hFm12, hRBNm12, hRCTm12, hRE19m12, hRG6m12, hRK10m12, ⟨by omega, by omega⟩, ⟨by omega, by omega⟩⟩
      · refine zw_bd (zw_mono (zk_258 n hIm6 hc0 ⟨by omega, by omega⟩ hRBNm6 hRCTm6 hRE19m6 hRG6m6 hRK10m6) (fun v16 m15 hqm15 => ?_))
        obtain ⟨hIm15, hfm15, hvm15⟩ := hqm15
        have hFm15 := zfr_tr hFm6 hfm15 rfl
        obtain ⟨hRBNm15, hRCTm15, hRE19m15, hRG6m15, hRK10m15, hvm15⟩ := hvm15
        refine zw_ite (fun h17 => ?_) (fun h17 => ?_)
        · have w18 := zu_w32_rg (x2 + 1)
          have w19 := zu_w32_id (z := x3 + 1) (by omega) (by omega)
          have r20 : (-2147483648) ≤ (m15 19 9) ∧ (m15 19 9) ≤ 2147483647 := zi_rd hIm15 zq_19 zb_6_9
          have e21 : (m15 19 9) = (mh 19 9) := (Eq.trans (zfr_ap hfm15 zq_19 rfl) (zfr_ap hfm6 zq_19 rfl))
          have hM : (701 - (zu_w32 (x3 + 1))) * 1 + 0 < (k : Int) := by omega
          exact ih (zu_w32 (x2 + 1)) (zu_w32 (x3 + 1)) m15 hIm15 hFm15 ⟨by omega, by omega⟩ ⟨by omega, by omega⟩ ⟨by omega, by omega⟩ ⟨by omega, by omega⟩ hRBNm15 hRCTm15 hRE19m15 hRG6m15 hRK10m15 hM
        · have r22 : 0 ≤ (m15 6 5) ∧ (m15 6 5) ≤ 99999 := zi_rd hIm15 zq_6 zb_4_5
          generalize hmm23 : zu_up m15 19 9 (m15 6 5) = m23
          have hIm23 := zi_up hmm23 hIm15 zq_19 zb_6_9 (by omega) (by omega)
          have hFm23 := zfr_up hmm23 hFm15 zq_19 rfl
          have hRBNm23 := zR_BN_fr (zdis_fr (zfr_up hmm23 (zfr_rf [(6, 10)] _) zq_19 rfl) rfl) hRBNm15
          have hRCTm23 := zR_CT_fr (zdis_fr (zfr_up hmm23 (zfr_rf [(6, 10)] _) zq_19 rfl) rfl) hRCTm15
          have hRE19m23 := zR_E19_fr (zdis_fr (zfr_up hmm23 (zfr_rf [(6, 10)] _) zq_19 rfl) rfl) hRE19m15
          have hRG6m23 := zR_G6_fr (zdis_fr (zfr_up hmm23 (zfr_rf [(6, 10)] _) zq_19 rfl) rfl) hRG6m15
          have hRK10m23 := zR_K10_fr (zdis_fr (zfr_up hmm23 (zfr_rf [(6, 10)] _) zq_19 rfl) rfl) hRK10m15
          have r24 : (-2147483648) ≤ (m23 19 9) ∧ (m23 19 9) ≤ 2147483647 := zi_rd hIm23 zq_19 zb_6_9
          have e25 : (m23 19 9) = (m15 6 5) := (zs_eq hmm23)
          exact zw_some ⟨hIm23, hFm23, hRBNm23, hRCTm23, hRE19m23, hRG6m23, hRK10m23, ⟨by omega, by omega⟩, ⟨by omega, by omega⟩⟩
set_option maxHeartbeats 4000000 in
theorem zk_12 (n : Nat) {a0 a1 : Int} {m0 : zu_m} (hIm0 : zi_I m0) (hc0 : zcls a0 = 3) (ha1 : 0 ≤ a1 ∧ a1 ≤ 700)    (hRBNm0 : zR_BN m0) (hRK10m0 : zR_K10 m0) : zw (zu_call (zt_T n) 12 [(7, a0), (0, a1)] m0) (fun v m => zi_I m ∧ zfr [(3, 5), (3, 6), (3, 7), (3, 8), (3, 9), (3, 10), (3, 11), (4, 1), (4, 2), (4, 3), (4, 4), (4, 5), (4, 6), (5, 6), (5, 7), (6, 3), (6, 5), (6, 9), (6, 10), (6, 11), (6, 12), (7, 1), (7, 2), (7, 3), (7, 4), (8, 1), (8, 2), (8, 3), (8, 4), (8, 5), (8, 6), (8, 7), (9, 3), (9, 4), (9, 5), (9, 6), (9, 7), (10, 4), (10, 5), (10, 7), (10, 8), (30, 0), (31, 0), (32, 0), (33, 0), (34, 0), (35, 0), (36, 0), (43, 0), (44, 0), (47, 0), (48, 0)] m0 m ∧ zR_BN m ∧ (m 5 6 = 0 → m 19 4 = 0) ∧ zE m 19 6 ∧ (m 6 2 = m 6 0 * m 6 1) ∧ zR_K10 m ∧ ((-2147483648) ≤ v ∧ v ≤ 2147483647) ∧ (0 ≤ m 19 9 ∧ m 19 9 ≤ 99999)) := by
  have hFm0 : zfr [(3, 5), (3, 6), (3, 7), (3, 8), (3, 9), (3, 10), (3, 11), (4, 1), (4, 2), (4, 3), (4, 4), (4, 5), (4, 6), (5, 6), (5, 7), (6, 3), (6, 5), (6, 9), (6, 10), (6, 11), (6, 12), (7, 1), (7, 2), (7, 3), (7, 4), (8, 1), (8, 2), (8, 3), (8, 4), (8, 5), (8, 6), (8, 7), (9, 3), (9, 4), (9, 5), (9, 6), (9, 7), (10, 4), (10, 5), (10, 7), (10, 8), (30, 0), (31, 0), (32, 0), (33, 0), (34, 0), (35, 0), (36, 0), (43, 0), (44, 0), (47, 0), (48, 0)] m0 m0 := zfr_rf _ _
  refine zw_eq (zu_call_at (zt_T n) (zm_12 n) (zdp_12 n) _ _ _ _ _ rfl (zr_12_0 n _ _ a0 a1 m0)) ?_
  refine zw_bd (zw_mono (zk_13 n hIm0 zq_6) (fun v27 m26 hqm26 => ?_))
  obtain ⟨hIm26, hfm26, hvm26⟩ := hqm26
  have hFm26 := zfr_tr hFm0 hfm26 rfl
  obtain ⟨hRG6m26, hvm26⟩ := hvm26
  have hRBNm26 := zR_BN_fr (zdis_fr hfm26 rfl) hRBNm0
  have hRK10m26 := zR_K10_fr (zdis_fr hfm26 rfl) hRK10m0
  refine zw_bd (zw_mono (zk_16 n hIm26 zq_19) (fun v29 m28 hqm28 => ?_))
  obtain ⟨hIm28, hfm28, hvm28⟩ := hqm28
  have hFm28 := zfr_tr hFm26 hfm28 rfl
  obtain ⟨hRE19m28, hvm28⟩ := hvm28
  have hRBNm28 := zR_BN_fr (zdis_fr hfm28 rfl) hRBNm26
  have hRG6m28 := zR_G6_fr (zdis_fr hfm28 rfl) hRG6m26
  have hRK10m28 := zR_K10_fr (zdis_fr hfm28 rfl) hRK10m26
  generalize hmm30 : zu_up m28 a0 4 0 = m30
  have hIm30 := zi_up hmm30 hIm28 hc0 zb_3_4 (by omega) (by omega)
  have hFm30 := zfr_up hmm30 hFm28 hc0 rfl
  have hRBNm30 := zR_BN_fr (zdis_fr (zfr_up hmm30 (zfr_rf [(3, 5)] _) hc0 rfl) rfl) hRBNm28
  have hRE19m30 := zR_E19_fr (zdis_fr (zfr_up hmm30 (zfr_rf [(3, 5)] _) hc0 rfl) rfl) hRE19m28
  have hRG6m30 := zR_G6_fr (zdis_fr (zfr_up hmm30 (zfr_rf [(3, 5)] _) hc0 rfl) rfl) hRG6m28
  have hRK10m30 := zR_K10_fr (zdis_fr (zfr_up hmm30 (zfr_rf [(3, 5)] _) hc0 rfl) rfl) hRK10m28
  generalize hmm31 : zu_up m30 a0 5 0 = m31
  have hIm31 := zi_up hmm31 hIm30 hc0 zb_3_5 (by omega) (by omega)
  have hFm31 := zfr_up hmm31 hFm30 hc0 rfl
  have hRBNm31 := zR_BN_fr (zdis_fr (zfr_up hmm31 (zfr_rf [(3, 6)] _) hc0 rfl) rfl) hRBNm30
  have hRE19m31 := zR_E19_fr (zdis_fr (zfr_up hmm31 (zfr_rf [(3, 6)] _) hc0 rfl) rfl) hRE19m30
  have hRG6m31 := zR_G6_fr (zdis_fr (zfr_up hmm31 (zfr_rf [(3, 6)] _) hc0 rfl) rfl) hRG6m30
  have hRK10m31 := zR_K10_fr (zdis_fr (zfr_up hmm31 (zfr_rf [(3, 6)] _) hc0 rfl) rfl) hRK10m30
  refine zw_b (by omega) ?_
  generalize hmm32 : zu_up m31 a0 6 0 = m32
  have hIm32 := zi_up hmm32 hIm31 hc0 zb_3_6 (by omega) (by omega)
  have hFm32 := zfr_up hmm32 hFm31 hc0 rfl
  have hRBNm32 := zR_BN_fr (zdis_fr (zfr_up hmm32 (zfr_rf [(3, 7)] _) hc0 rfl) rfl) hRBNm31
  have hRE19m32 := zR_E19_fr (zdis_fr (zfr_up hmm32 (zfr_rf [(3, 7)] _) hc0 rfl) rfl) hRE19m31
  have hRG6m32 := zR_G6_fr (zdis_fr (zfr_up hmm32 (zfr_rf [(3, 7)] _) hc0 rfl) rfl) hRG6m31
  have hRK10m32 := zR_K10_fr (zdis_fr (zfr_up hmm32 (zfr_rf [(3, 7)] _) hc0 rfl) rfl) hRK10m31
  have r33 : 0 ≤ (m32 19 4) ∧ (m32 19 4) ≤ 4 := zi_rd hIm32 zq_19 zb_6_4
  have e34 : (m32 19 4) = (m28 19 4) := (Eq.trans (zs_ne hmm32 (Or.inl (zc_ne zq_19 hc0 (by decide)))) (Eq.trans (zs_ne hmm31 (Or.inl (zc_ne zq_19 hc0 (by decide)))) (zs_ne hmm30 (Or.inl (zc_ne zq_19 hc0 (by decide))))))
  have hRCTm32 : (m32 5 6 = 0 → m32 19 4 = 0) := fun _ => by omega
  generalize hmm35 : zu_up m32 a0 9 0 = m35
  have hIm35 := zi_up hmm35 hIm32 hc0 zb_3_9 (by omega) (by omega)
  have hFm35 := zfr_up hmm35 hFm32 hc0 rfl
  have hRBNm35 := zR_BN_fr (zdis_fr (zfr_up hmm35 (zfr_rf [(3, 10)] _) hc0 rfl) rfl) hRBNm32
  have hRCTm35 := zR_CT_fr (zdis_fr (zfr_up hmm35 (zfr_rf [(3, 10)] _) hc0 rfl) rfl) hRCTm32
  have hRE19m35 := zR_E19_fr (zdis_fr (zfr_up hmm35 (zfr_rf [(3, 10)] _) hc0 rfl) rfl) hRE19m32
  have hRG6m35 := zR_G6_fr (zdis_fr (zfr_up hmm35 (zfr_rf [(3, 10)] _) hc0 rfl) rfl) hRG6m32
  have hRK10m35 := zR_K10_fr (zdis_fr (zfr_up hmm35 (zfr_rf [(3, 10)] _) hc0 rfl) rfl) hRK10m32
  generalize hmm36 : zu_up m35 a0 10 (-1) = m36
  have hIm36 := zi_up hmm36 hIm35 hc0 zb_3_10 (by omega) (by omega)
  have hFm36 := zfr_up hmm36 hFm35 hc0 rfl
  have hRBNm36 := zR_BN_fr (zdis_fr (zfr_up hmm36 (zfr_rf [(3, 11)] _) hc0 rfl) rfl) hRBNm35
  have hRCTm36 := zR_CT_fr (zdis_fr (zfr_up hmm36 (zfr_rf [(3, 11)] _) hc0 rfl) rfl) hRCTm35
  have hRE19m36 := zR_E19_fr (zdis_fr (zfr_up hmm36 (zfr_rf [(3, 11)] _) hc0 rfl) rfl) hRE19m35
  have hRG6m36 := zR_G6_fr (zdis_fr (zfr_up hmm36 (zfr_rf [(3, 11)] _) hc0 rfl) rfl) hRG6m35
  have hRK10m36 := zR_K10_fr (zdis_fr (zfr_up hmm36 (zfr_rf [(3, 11)] _) hc0 rfl) rfl) hRK10m35
  refine zw_bd (zw_mono (zk_17 n hIm36 zq_45 ⟨by omega, by omega⟩) (fun v38 m37 hqm37 => ?_))
  obtain ⟨hIm37, hfm37, hvm37⟩ := hqm37
  have hFm37 := zfr_tr hFm36 hfm37 rfl
  have hRBNm37 := zR_BN_fr (zdis_fr hfm37 rfl) hRBNm36
  have hRCTm37 := zR_CT_fr (zdis_fr hfm37 rfl) hRCTm36
  have hRE19m37 := zR_E19_fr (zdis_fr hfm37 rfl) hRE19m36
  have hRG6m37 := zR_G6_fr (zdis_fr hfm37 rfl) hRG6m36
  have hRK10m37 := zR_K10_fr (zdis_fr hfm37 rfl) hRK10m36
  have r39 : (-2147483648) ≤ (m37 19 9) ∧ (m37 19 9) ≤ 2147483647 := zi_rd hIm37 zq_19 zb_6_9
  have e40 : (m37 19 9) = (m28 19 9) := (Eq.trans (zfr_ap hfm37 zq_19 rfl) (Eq.trans (zs_ne hmm36 (Or.inl (zc_ne zq_19 hc0 (by decide)))) (Eq.trans (zs_ne hmm35 (Or.inl (zc_ne zq_19 hc0 (by decide)))) (Eq.trans (zs_ne hmm32 (Or.inl (zc_ne zq_19 hc0 (by decide)))) (Eq.trans (zs_ne hmm31 (Or.inl (zc_ne zq_19 hc0 (by decide)))) (zs_ne hmm30 (Or.inl (zc_ne zq_19 hc0 (by decide)))))))))
  have hM : (701 - 0) * 1 + 0 < ((702 : Nat) : Int) := by omega
  exact (zl_12 n (m0 := m0) hc0 702) 0 0 m37 hIm37 hFm37 ⟨by omega, by omega⟩ ⟨by omega, by omega⟩ ⟨by omega, by omega⟩ ⟨by omega, by omega⟩ hRBNm37 hRCTm37 hRE19m37 hRG6m37 hRK10m37 hM

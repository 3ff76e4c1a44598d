set_option maxHeartbeats 4000000 in
theorem zl_176 (n : Nat) {a0 a1 : Int} {m0 : zu_m} (hc0 : zcls a0 = 28)   : ∀ k : Nat, (∀ (x2 : Int) (mh : zu_m), zi_I mh → zfr [(28, 3), (28, 54), (122, 0), (123, 0)] m0 mh → (0 ≤ a1 ∧ a1 ≤ 3) → (0 ≤ x2 ∧ x2 ≤ 4) → (0 ≤ mh a0 2 ∧ mh a0 2 ≤ 0) → (zR_KN mh) → (4 - x2) * 1229 + 1228 < (k : Int) → zw (zu_ex (zt_T n) 176 18 [(40, a0), (0, a1), (0, x2), (2, 0), (2, 0), (2, 0)] [] mh) (fun v m => zi_I m ∧ zfr [(28, 3), (28, 54), (122, 0), (123, 0)] m0 m ∧ zR_KN m ∧ ((-8) ≤ v ∧ v ≤ 15) ∧ (0 ≤ m a0 2 ∧ m a0 2 ≤ 0))) ∧ (∀ (x2 x3 : Int) (mh : zu_m), zi_I mh → zfr [(28, 3), (28, 54), (122, 0), (123, 0)] m0 mh → (0 ≤ a1 ∧ a1 ≤ 3) → (0 ≤ x2 ∧ x2 ≤ 3) → (1 ≤ x3 ∧ x3 ≤ 4) → (1 ≤ mh a0 15 ∧ mh a0 15 ≤ 4) → (0 ≤ mh a0 2 ∧ mh a0 2 ≤ 0) → (zR_KN mh) → (4 - x3) * 307 + (4 - x2) * 1229 + 306 < (k : Int) → zw (zu_ex (zt_T n) 176 30 [(40, a0), (0, a1), (0, x2), (0, x3), (2, 0), (2, 0)] [] mh) (fun v m => zi_I m ∧ zfr [(28, 3), (28, 54), (122, 0), (123, 0)] m0 m ∧ zR_KN m ∧ ((-8) ≤ v ∧ v ≤ 15) ∧ (0 ≤ m a0 2 ∧ m a0 2 ≤ 0))) ∧ (∀ (x2 x3 x4 : Int) (mh : zu_m), zi_I mh → zfr [(28, 3), (28, 54), (122, 0), (123, 0)] m0 mh → (0 ≤ a1 ∧ a1 ≤ 3) → (0 ≤ x2 ∧ x2 ≤ 3) → (1 ≤ x3 ∧ x3 ≤ 3) → (0 ≤ x4 ∧ x4 ≤ 16) → (2 ≤ mh a0 15 ∧ mh a0 15 ≤ 4) → (0 ≤ mh a0 2 ∧ mh a0 2 ≤ 0) → (zR_KN mh) → (16 - x4) * 18 + (4 - x3) * 307 + (4 - x2) * 1229 + 17 < (k : Int) → zw (zu_ex (zt_T n) 176 41 [(40, a0), (0, a1), (0, x2), (0, x3), (0, x4), (2, 0)] [] mh) (fun v m => zi_I m ∧ zfr [(28, 3), (28, 54), (122, 0), (123, 0)] m0 m ∧ zR_KN m ∧ ((-8) ≤ v ∧ v ≤ 15) ∧ (0 ≤ m a0 2 ∧ m a0 2 ≤ 0))) ∧ (∀ (x2 x3 x4 x5 : Int) (mh : zu_m), zi_I mh → zfr [(28, 3), (28, 54), (122, 0), (123, 0)] m0 mh → (0 ≤ a1 ∧ a1 ≤ 3) → (0 ≤ x2 ∧ x2 ≤ 3) → (1 ≤ x3 ∧ x3 ≤ 3) → (0 ≤ x4 ∧ x4 ≤ 15) → (0 ≤ x5 ∧ x5 ≤ 16) → (1 ≤ mh 216 0 ∧ mh 216 0 ≤ 16) → (2 ≤ mh a0 15 ∧ mh a0 15 ≤ 4) → (0 ≤ mh a0 2 ∧ mh a0 2 ≤ 0) → (zR_KN mh) → (16 - x5) * 1 + (16 - x4) * 18 + (4 - x3) * 307 + (4 - x2) * 1229 + 0 < (k : Int) → zw (zu_ex (zt_T n) 176 55 [(40, a0), (0, a1), (0, x2), (0, x3), (0, x4), (0, x5)] [] mh) (fun v m => zi_I m ∧ zfr [(28, 3), (28, 54), (122, 0), (123, 0)] m0 m ∧ zR_KN m ∧ ((-8) ≤ v ∧ v ≤ 15) ∧ (0 ≤ m a0 2 ∧ m a0 2 ≤ 0))) := by
  intro k
  induction k with
  | zero => exact ⟨fun x2 mh hImh hFmh hba1 hbx2 hg2 hRKNmh hM => by exfalso; omega, fun x2 x3 mh hImh hFmh hba1 hbx2 hbx3 hg3 hg4 hRKNmh hM => by exfalso; omega, fun x2 x3 x4 mh hImh hFmh hba1 hbx2 hbx3 hbx4 hg4 hg5 hRKNmh hM => by exfalso; omega, fun x2 x3 x4 x5 mh hImh hFmh hba1 hbx2 hbx3 hbx4 hbx5 hg5 hg6 hg7 hRKNmh hM => by exfalso; omega⟩
  | succ k ih =>
    refine ⟨?_, ?_, ?_, ?_⟩
    · intro x2 mh hImh hFmh hba1 hbx2 hg2 hRKNmh hM
      refine zw_eq (zu_rega_at (zt_T n) (zm_176 n) (zdp_176 n) _ _ _ _ _ _ (zr_176_18 n _ _ a0 a1 x2 mh)) ?_
      have r1 : 0 ≤ (mh a0 15) ∧ (mh a0 15) ≤ 4 := zi_rd hImh hc0 zb_28_15
      refine zw_ite (fun h2 => ?_) (fun h2 => ?_)
      · exact zw_some ⟨hImh, hFmh, hRKNmh, ⟨by omega, by omega⟩, ⟨by omega, by omega⟩⟩
      · have w3 := zu_w32_id (z := x2 + 1) (by omega) (by omega)
        have hM : (4 - (zu_w32 (x2 + 1))) * 307 + (4 - x2) * 1229 + 306 < (k : Int) := by omega
        exact ih.2.1 x2 (zu_w32 (x2 + 1)) mh hImh hFmh ⟨by omega, by omega⟩ ⟨by omega, by omega⟩ ⟨by omega, by omega⟩ ⟨by omega, by omega⟩ ⟨by omega, by omega⟩ hRKNmh hM
    · intro x2 x3 mh hImh hFmh hba1 hbx2 hbx3 hg3 hg4 hRKNmh hM
      refine zw_eq (zu_rega_at (zt_T n) (zm_176 n) (zdp_176 n) _ _ _ _ _ _ (zr_176_30 n _ _ a0 a1 x2 x3 mh)) ?_
      refine zw_ite (fun h4 => ?_) (fun h4 => ?_)
      · have w5 := zu_w32_id (z := x2 + 1) (by omega) (by omega)
        have hM : (4 - (zu_w32 (x2 + 1))) * 1229 + 1228 < (k : Int) := by omega
        exact zw_le (zu_forget (zu_lr_same (zu_lr_same (zu_lr_same (zu_lr_drop (zu_lr_same (zu_lr_same zu_lr_nil))))))) (ih.1 (zu_w32 (x2 + 1)) mh hImh hFmh ⟨by omega, by omega⟩ ⟨by omega, by omega⟩ ⟨by omega, by omega⟩ hRKNmh hM)
      · have hM : (16 - 0) * 18 + (4 - x3) * 307 + (4 - x2) * 1229 + 17 < (k : Int) := by omega
        exact ih.2.2.1 x2 x3 0 mh hImh hFmh ⟨by omega, by omega⟩ ⟨by omega, by omega⟩ ⟨by omega, by omega⟩ ⟨by omega, by omega⟩ ⟨by omega, by omega⟩ ⟨by omega, by omega⟩ hRKNmh hM
    · intro x2 x3 x4 mh hImh hFmh hba1 hbx2 hbx3 hbx4 hg4 hg5 hRKNmh hM
      refine zw_eq (zu_rega_at (zt_T n) (zm_176 n) (zdp_176 n) _ _ _ _ _ _ (zr_176_41 n _ _ a0 a1 x2 x3 x4 mh)) ?_
      have b6 : 0 ≤ (0 : Int) ∧ (0 : Int) < 2 := by omega
      refine zw_if b6 ?_
      have r7 : 0 ≤ (mh 216 0) ∧ (mh 216 0) ≤ 16 := zi_rdr (m := 2) (r0 := 0) (r1 := 0) hImh zq_216 (by omega) (by decide +kernel)
      refine zw_ite (fun h8 => ?_) (fun h8 => ?_)
      · have w9 := zu_w32_id (z := x3 + 1) (by omega) (by omega)
        have hM : (4 - (zu_w32 (x3 + 1))) * 307 + (4 - x2) * 1229 + 306 < (k : Int) := by omega
        exact zw_le (zu_forget (zu_lr_same (zu_lr_same (zu_lr_same (zu_lr_same (zu_lr_drop (zu_lr_same zu_lr_nil))))))) (ih.2.1 x2 (zu_w32 (x3 + 1)) mh hImh hFmh ⟨by omega, by omega⟩ ⟨by omega, by omega⟩ ⟨by omega, by omega⟩ ⟨by omega, by omega⟩ ⟨by omega, by omega⟩ hRKNmh hM)
      · have hM : (16 - 0) * 1 + (16 - x4) * 18 + (4 - x3) * 307 + (4 - x2) * 1229 + 0 < (k : Int) := by omega
        exact ih.2.2.2 x2 x3 x4 0 mh hImh hFmh ⟨by omega, by omega⟩ ⟨by omega, by omega⟩ ⟨by omega, by omega⟩ ⟨by omega, by omega⟩ ⟨by omega, by omega⟩ ⟨by omega, by omega⟩ ⟨by omega, by omega⟩ ⟨by omega, by omega⟩ hRKNmh hM
    · intro x2 x3 x4 x5 mh hImh hFmh hba1 hbx2 hbx3 hbx4 hbx5 hg5 hg6 hg7 hRKNmh hM
      refine zw_eq (zu_rega_at (zt_T n) (zm_176 n) (zdp_176 n) _ _ _ _ _ _ (zr_176_55 n _ _ a0 a1 x2 x3 x4 x5 mh)) ?_
      have b10 : 0 ≤ (0 : Int) ∧ (0 : Int) < 2 := by omega
      refine zw_if b10 ?_
      refine zw_ite (fun h11 => ?_) (fun h11 => ?_)
      · have w12 := zu_w32_id (z := x4 + 1) (by omega) (by omega)
        have hM : (16 - (zu_w32 (x4 + 1))) * 18 + (4 - x3) * 307 + (4 - x2) * 1229 + 17 < (k : Int) := by omega
        exact zw_le (zu_forget (zu_lr_same (zu_lr_same (zu_lr_same (zu_lr_same (zu_lr_same (zu_lr_drop zu_lr_nil))))))) (ih.2.2.1 x2 x3 (zu_w32 (x4 + 1)) mh hImh hFmh ⟨by omega, by omega⟩ ⟨by omega, by omega⟩ ⟨by omega, by omega⟩ ⟨by omega, by omega⟩ ⟨by omega, by omega⟩ ⟨by omega, by omega⟩ hRKNmh hM)
      · have b13 : 0 ≤ x4 ∧ x4 < 36 := by omega
        refine zw_if b13 ?_
        have r14 : (-3) ≤ (mh 215 x4) ∧ (mh 215 x4) ≤ 3 := zi_rd hImh zq_215 (zb_124 _)
        refine zw_ite (fun h15 => ?_) (fun h15 => ?_)
        · have w16 := zu_w32_id (z := x4 + 1) (by omega) (by omega)
          have hM : (16 - (zu_w32 (x4 + 1))) * 18 + (4 - x3) * 307 + (4 - x2) * 1229 + 17 < (k : Int) := by omega
          exact zw_le (zu_forget (zu_lr_same (zu_lr_same (zu_lr_same (zu_lr_same (zu_lr_same (zu_lr_drop zu_lr_nil))))))) (ih.2.2.1 x2 x3 (zu_w32 (x4 + 1)) mh hImh hFmh ⟨by omega, by omega⟩ ⟨by omega, by omega⟩ ⟨by omega, by omega⟩ ⟨by omega, by omega⟩ ⟨by omega, by omega⟩ ⟨by omega, by omega⟩ hRKNmh hM)
        · have b17 : 0 ≤ x5 ∧ x5 < 36 := by omega
          refine zw_if b17 ?_
          have r18 : (-3) ≤ (mh 215 x5) ∧ (mh 215 x5) ≤ 3 := zi_rd hImh zq_215 (zb_124 _)
          refine zw_ite (fun h19 => ?_) (fun h19 => ?_)
          · have w20 := zu_w32_id (z := x5 + 1) (by omega) (by omega)
            have hM : (16 - (zu_w32 (x5 + 1))) * 1 + (16 - x4) * 18 + (4 - x3) * 307 + (4 - x2) * 1229 + 0 < (k : Int) := by omega
            exact ih.2.2.2 x2 x3 x4 (zu_w32 (x5 + 1)) mh hImh hFmh ⟨by omega, by omega⟩ ⟨by omega, by omega⟩ ⟨by omega, by omega⟩ ⟨by omega, by omega⟩ ⟨by omega, by omega⟩ ⟨by omega, by omega⟩ ⟨by omega, by omega⟩ ⟨by omega, by omega⟩ hRKNmh hM
          · refine zw_bd (zw_mono (zk_175 n hImh hc0 ⟨by omega, by omega⟩ ⟨by omega, by omega⟩ ⟨by omega, by omega⟩ ⟨by omega, by omega⟩ hRKNmh) (fun v22 m21 hqm21 => ?_))
            obtain ⟨hIm21, hfm21, hvm21⟩ := hqm21
            have hFm21 := zfr_tr hFmh hfm21 rfl
            obtain ⟨hRKNm21, hvm21⟩ := hvm21
            refine zw_ite (fun h23 => ?_) (fun h23 => ?_)
            · have w24 := zu_w32_id (z := x5 + 1) (by omega) (by omega)
              have r25 : (-2147483648) ≤ (m21 a0 2) ∧ (m21 a0 2) ≤ 2147483647 := zi_rd hIm21 hc0 zb_28_2
              have e26 : (m21 a0 2) = (mh a0 2) := (zfr_ap hfm21 hc0 rfl)
              have r27 : 0 ≤ (m21 a0 15) ∧ (m21 a0 15) ≤ 4 := zi_rd hIm21 hc0 zb_28_15
              have e28 : (m21 a0 15) = (mh a0 15) := (zfr_ap hfm21 hc0 rfl)
              have r29 : 0 ≤ (m21 216 0) ∧ (m21 216 0) ≤ 16 := zi_rdr (m := 2) (r0 := 0) (r1 := 0) hIm21 zq_216 (by omega) (by decide +kernel)
              have e30 : (m21 216 0) = (mh 216 0) := (zfr_ap hfm21 zq_216 rfl)
              have hM : (16 - (zu_w32 (x5 + 1))) * 1 + (16 - x4) * 18 + (4 - x3) * 307 + (4 - x2) * 1229 + 0 < (k : Int) := by omega
              exact ih.2.2.2 x2 x3 x4 (zu_w32 (x5 + 1)) m21 hIm21 hFm21 ⟨by omega, by omega⟩ ⟨by omega, by omega⟩ ⟨by omega, by omega⟩ ⟨by omega, by omega⟩ ⟨by omega, by omega⟩ ⟨by omega, by omega⟩ ⟨by omega, by omega⟩ ⟨by omega, by omega⟩ hRKNm21 hM
            · refine zw_ite (fun h31 => ?_) (fun h31 => ?_)
              · refine zw_ite (fun h32 => ?_) (fun h32 => ?_)
                · refine zw_ite (fun h33 => ?_) (fun h33 => ?_)
                  · have r34 : (-2147483648) ≤ (m21 a0 2) ∧ (m21 a0 2) ≤ 2147483647 := zi_rd hIm21 hc0 zb_28_2
                    have e35 : (m21 a0 2) = (mh a0 2) := (zfr_ap hfm21 hc0 rfl)
                    exact zw_some ⟨hIm21, hFm21, hRKNm21, ⟨by omega, by omega⟩, ⟨by omega, by omega⟩⟩
                  · have r36 : (-2147483648) ≤ (m21 a0 2) ∧ (m21 a0 2) ≤ 2147483647 := zi_rd hIm21 hc0 zb_28_2
                    have e37 : (m21 a0 2) = (mh a0 2) := (zfr_ap hfm21 hc0 rfl)
                    exact zw_some ⟨hIm21, hFm21, hRKNm21, ⟨by omega, by omega⟩, ⟨by omega, by omega⟩⟩
                · have r38 : (-2147483648) ≤ (m21 a0 2) ∧ (m21 a0 2) ≤ 2147483647 := zi_rd hIm21 hc0 zb_28_2
                  have e39 : (m21 a0 2) = (mh a0 2) := (zfr_ap hfm21 hc0 rfl)
                  exact zw_some ⟨hIm21, hFm21, hRKNm21, ⟨by omega, by omega⟩, ⟨by omega, by omega⟩⟩
              · have r40 : (-2147483648) ≤ (m21 a0 2) ∧ (m21 a0 2) ≤ 2147483647 := zi_rd hIm21 hc0 zb_28_2
                have e41 : (m21 a0 2) = (mh a0 2) := (zfr_ap hfm21 hc0 rfl)
                exact zw_some ⟨hIm21, hFm21, hRKNm21, ⟨by omega, by omega⟩, ⟨by omega, by omega⟩⟩
set_option maxHeartbeats 4000000 in
theorem zk_176 (n : Nat) {a0 a1 : Int} {m0 : zu_m} (hIm0 : zi_I m0) (hc0 : zcls a0 = 28) (ha1 : (-2147483648) ≤ a1 ∧ a1 ≤ 2147483647)    (hRKNm0 : zR_KN m0) : zw (zu_call (zt_T n) 176 [(40, a0), (0, a1)] m0) (fun v m => zi_I m ∧ zfr [(28, 3), (28, 54), (122, 0), (123, 0)] m0 m ∧ zR_KN m ∧ ((-8) ≤ v ∧ v ≤ 15) ∧ (0 ≤ m a0 2 ∧ m a0 2 ≤ 0)) := by
  have hFm0 : zfr [(28, 3), (28, 54), (122, 0), (123, 0)] m0 m0 := zfr_rf _ _
  refine zw_eq (zu_call_at (zt_T n) (zm_176 n) (zdp_176 n) _ _ _ _ _ rfl (zr_176_0 n _ _ a0 a1 m0)) ?_
  generalize hmm42 : zu_up m0 a0 2 0 = m42
  have hIm42 := zi_up hmm42 hIm0 hc0 zb_28_2 (by omega) (by omega)
  have hFm42 := zfr_up hmm42 hFm0 hc0 rfl
  have hRKNm42 := zR_KN_fr (zdis_fr (zfr_up hmm42 (zfr_rf [(28, 3)] _) hc0 rfl) rfl) hRKNm0
  refine zw_bd (zw_eq (zu_call_at (zt_T n) (zm_83 n) (zdp_83 n) _ _ _ _ _ rfl (zr_83_0 n _ _ a1 0 3 m42)) ?_)
  refine zw_ite (fun h43 => ?_) (fun h43 => ?_)
  · refine zw_b (by omega) ?_
    refine zw_some ?_
    refine zw_ite (fun h44 => ?_) (fun h44 => ?_)
    · exfalso; omega
    · have r45 : (-2147483648) ≤ (m42 a0 2) ∧ (m42 a0 2) ≤ 2147483647 := zi_rd hIm42 hc0 zb_28_2
      have e46 : (m42 a0 2) = 0 := (zs_eq hmm42)
      exact zw_some ⟨hIm42, hFm42, hRKNm42, ⟨by omega, by omega⟩, ⟨by omega, by omega⟩⟩
  · refine zw_ite (fun h47 => ?_) (fun h47 => ?_)
    · refine zw_b (by omega) ?_
      refine zw_some ?_
      refine zw_ite (fun h48 => ?_) (fun h48 => ?_)
      · exfalso; omega
      · have r49 : (-2147483648) ≤ (m42 a0 2) ∧ (m42 a0 2) ≤ 2147483647 := zi_rd hIm42 hc0 zb_28_2
        have e50 : (m42 a0 2) = 0 := (zs_eq hmm42)
        exact zw_some ⟨hIm42, hFm42, hRKNm42, ⟨by omega, by omega⟩, ⟨by omega, by omega⟩⟩
    · refine zw_b (by omega) ?_
      refine zw_some ?_
      refine zw_ite (fun h51 => ?_) (fun h51 => ?_)
      · have r52 : (-2147483648) ≤ (m42 a0 2) ∧ (m42 a0 2) ≤ 2147483647 := zi_rd hIm42 hc0 zb_28_2
        have e53 : (m42 a0 2) = 0 := (zs_eq hmm42)
        have hM : (4 - 0) * 1229 + 1228 < ((6145 : Nat) : Int) := by omega
        exact (zl_176 n (m0 := m0) hc0 6145).1 0 m42 hIm42 hFm42 ⟨by omega, by omega⟩ ⟨by omega, by omega⟩ ⟨by omega, by omega⟩ hRKNm42 hM
      · exfalso; omega
set_option maxHeartbeats 4000000 in
theorem zl_285 (n : Nat) {a0 a1 a2 a3 a4 : Int} {m0 : zu_m} (hc0 : zcls a0 = 24)   : ∀ k : Nat, (∀ (x5 : Int) (mh : zu_m), zi_I mh → zfr [(24, 7), (24, 14), (24, 15), (24, 16), (25, 3), (25, 5), (25, 9), (25, 10), (25, 11), (25, 12), (26, 1), (26, 2), (26, 3), (26, 4), (27, 1), (27, 2), (27, 3), (27, 4), (27, 5), (27, 6), (27, 7), (27, 8), (56, 0), (59, 1), (59, 2), (59, 3), (59, 4), (59, 5), (59, 6), (59, 7), (85, 0), (86, 0), (87, 0), (88, 0), (89, 0), (90, 0), (91, 0), (92, 0), (97, 0), (98, 0)] m0 mh → (1 ≤ a1 ∧ a1 ≤ 2) → (0 ≤ a2 ∧ a2 ≤ 3) → (0 ≤ a3 ∧ a3 ≤ 9) → (1 ≤ a4 ∧ a4 ≤ 40) → (0 ≤ x5 ∧ x5 ≤ 256) → (zR_K54 mh) → (256 - x5) * 1 + 2401 < (k : Int) → zw (zu_ex (zt_T n) 285 13 [(33, a0), (0, a1), (0, a2), (0, a3), (0, a4), (0, x5), (2, 0)] [] mh) (fun v m => zi_I m ∧ zfr [(24, 7), (24, 14), (24, 15), (24, 16), (25, 3), (25, 5), (25, 9), (25, 10), (25, 11), (25, 12), (26, 1), (26, 2), (26, 3), (26, 4), (27, 1), (27, 2), (27, 3), (27, 4), (27, 5), (27, 6), (27, 7), (27, 8), (56, 0), (59, 1), (59, 2), (59, 3), (59, 4), (59, 5), (59, 6), (59, 7), (85, 0), (86, 0), (87, 0), (88, 0), (89, 0), (90, 0), (91, 0), (92, 0), (97, 0), (98, 0)] m0 m ∧ zR_K54 m ∧ True)) ∧ (∀ (x5 : Int) (mh : zu_m), zi_I mh → zfr [(24, 7), (24, 14), (24, 15), (24, 16), (25, 3), (25, 5), (25, 9), (25, 10), (25, 11), (25, 12), (26, 1), (26, 2), (26, 3), (26, 4), (27, 1), (27, 2), (27, 3), (27, 4), (27, 5), (27, 6), (27, 7), (27, 8), (56, 0), (59, 1), (59, 2), (59, 3), (59, 4), (59, 5), (59, 6), (59, 7), (85, 0), (86, 0), (87, 0), (88, 0), (89, 0), (90, 0), (91, 0), (92, 0), (97, 0), (98, 0)] m0 mh → (1 ≤ a1 ∧ a1 ≤ 2) → (0 ≤ a2 ∧ a2 ≤ 3) → (0 ≤ a3 ∧ a3 ≤ 9) → (1 ≤ a4 ∧ a4 ≤ 40) → (0 ≤ x5 ∧ x5 ≤ 48) → (zR_K54 mh) → (48 - x5) * 49 + 48 < (k : Int) → zw (zu_ex (zt_T n) 285 60 [(33, a0), (0, a1), (0, a2), (0, a3), (0, a4), (0, x5), (2, 0)] [] mh) (fun v m => zi_I m ∧ zfr [(24, 7), (24, 14), (24, 15), (24, 16), (25, 3), (25, 5), (25, 9), (25, 10), (25, 11), (25, 12), (26, 1), (26, 2), (26, 3), (26, 4), (27, 1), (27, 2), (27, 3), (27, 4), (27, 5), (27, 6), (27, 7), (27, 8), (56, 0), (59, 1), (59, 2), (59, 3), (59, 4), (59, 5), (59, 6), (59, 7), (85, 0), (86, 0), (87, 0), (88, 0), (89, 0), (90, 0), (91, 0), (92, 0), (97, 0), (98, 0)] m0 m ∧ zR_K54 m ∧ True)) ∧ (∀ (x5 x6 : Int) (mh : zu_m), zi_I mh → zfr [(24, 7), (24, 14), (24, 15), (24, 16), (25, 3), (25, 5), (25, 9), (25, 10), (25, 11), (25, 12), (26, 1), (26, 2), (26, 3), (26, 4), (27, 1), (27, 2), (27, 3), (27, 4), (27, 5), (27, 6), (27, 7), (27, 8), (56, 0), (59, 1), (59, 2), (59, 3), (59, 4), (59, 5), (59, 6), (59, 7), (85, 0), (86, 0), (87, 0), (88, 0), (89, 0), (90, 0), (91, 0), (92, 0), (97, 0), (98, 0)] m0 mh → (1 ≤ a1 ∧ a1 ≤ 2) → (0 ≤ a2 ∧ a2 ≤ 3) → (0 ≤ a3 ∧ a3 ≤ 9) → (1 ≤ a4 ∧ a4 ≤ 40) → (0 ≤ x5 ∧ x5 ≤ 47) → (1 ≤ x6 ∧ x6 ≤ 48) → (zR_K54 mh) → (48 - x6) * 1 + (48 - x5) * 49 + 0 < (k : Int) → zw (zu_ex (zt_T n) 285 92 [(33, a0), (0, a1), (0, a2), (0, a3), (0, a4), (0, x5), (0, x6)] [] mh) (fun v m => zi_I m ∧ zfr [(24, 7), (24, 14), (24, 15), (24, 16), (25, 3), (25, 5), (25, 9), (25, 10), (25, 11), (25, 12), (26, 1), (26, 2), (26, 3), (26, 4), (27, 1), (27, 2), (27, 3), (27, 4), (27, 5), (27, 6), (27, 7), (27, 8), (56, 0), (59, 1), (59, 2), (59, 3), (59, 4), (59, 5), (59, 6), (59, 7), (85, 0), (86, 0), (87, 0), (88, 0), (89, 0), (90, 0), (91, 0), (92, 0), (97, 0), (98, 0)] m0 m ∧ zR_K54 m ∧ True)) := by
  intro k
  induction k with
  | zero => exact ⟨fun x5 mh hImh hFmh hba1 hba2 hba3 hba4 hbx5 hRK54mh hM => by exfalso; omega, fun x5 mh hImh hFmh hba1 hba2 hba3 hba4 hbx5 hRK54mh hM => by exfalso; omega, fun x5 x6 mh hImh hFmh hba1 hba2 hba3 hba4 hbx5 hbx6 hRK54mh hM => by exfalso; omega⟩
  | succ k ih =>
    refine ⟨?_, ?_, ?_⟩
    · intro x5 mh hImh hFmh hba1 hba2 hba3 hba4 hbx5 hRK54mh hM
      refine zw_eq (zu_rega_at (zt_T n) (zm_285 n) (zdp_285 n) _ _ _ _ _ _ (zr_285_13 n _ _ a0 a1 a2 a3 a4 x5 mh)) ?_
      refine zw_ite (fun h1 => ?_) (fun h1 => ?_)
      · refine zw_bd (zw_mono (zk_286 n hImh hc0 ⟨by omega, by omega⟩ hRK54mh) (fun v3 m2 hqm2 => ?_))
        obtain ⟨hIm2, hfm2, hvm2⟩ := hqm2
        have hFm2 := zfr_tr hFmh hfm2 rfl
        obtain ⟨hRK54m2, hvm2⟩ := hvm2
        generalize hmm4 : zu_up m2 a0 15 1000000 = m4
        have hIm4 := zi_up hmm4 hIm2 hc0 zb_24_15 (by omega) (by omega)
        have hFm4 := zfr_up hmm4 hFm2 hc0 rfl
        have hRK54m4 := zR_K54_fr (zdis_fr (zfr_up hmm4 (zfr_rf [(24, 16)] _) hc0 rfl) rfl) hRK54m2
        have hM : (48 - 0) * 49 + 48 < (k : Int) := by omega
        exact ih.2.1 0 m4 hIm4 hFm4 ⟨by omega, by omega⟩ ⟨by omega, by omega⟩ ⟨by omega, by omega⟩ ⟨by omega, by omega⟩ ⟨by omega, by omega⟩ hRK54m4 hM
      · have b5 : 0 ≤ x5 ∧ x5 < 256 := by omega
        refine zw_if b5 ?_
        generalize hmm6 : zu_up mh 159 x5 0 = m6
        have hIm6 := zi_up hmm6 hImh zq_159 (zb_90 _) (by omega) (by omega)
        have hFm6 := zfr_up hmm6 hFmh zq_159 rfl
        have hRK54m6 := zR_K54_fr (zdis_fr (zfr_up hmm6 (zfr_rf [(90, 0)] _) zq_159 rfl) rfl) hRK54mh
        have b7 : 0 ≤ x5 ∧ x5 < 256 := by omega
        refine zw_if b7 ?_
        generalize hmm8 : zu_up m6 160 x5 0 = m8
        have hIm8 := zi_up hmm8 hIm6 zq_160 (zb_91 _) (by omega) (by omega)
        have hFm8 := zfr_up hmm8 hFm6 zq_160 rfl
        have hRK54m8 := zR_K54_fr (zdis_fr (zfr_up hmm8 (zfr_rf [(91, 0)] _) zq_160 rfl) rfl) hRK54m6
        have w9 := zu_w32_id (z := x5 + 1) (by omega) (by omega)
        have hM : (256 - (zu_w32 (x5 + 1))) * 1 + 2401 < (k : Int) := by omega
        exact ih.1 (zu_w32 (x5 + 1)) m8 hIm8 hFm8 ⟨by omega, by omega⟩ ⟨by omega, by omega⟩ ⟨by omega, by omega⟩ ⟨by omega, by omega⟩ ⟨by omega, by omega⟩ hRK54m8 hM
    · intro x5 mh hImh hFmh hba1 hba2 hba3 hba4 hbx5 hRK54mh hM
      refine zw_eq (zu_rega_at (zt_T n) (zm_285 n) (zdp_285 n) _ _ _ _ _ _ (zr_285_60 n _ _ a0 a1 a2 a3 a4 x5 mh)) ?_
      have r10 : 1 ≤ (mh 50 2) ∧ (mh 50 2) ≤ 48 := zi_rd hImh zq_50 zb_11_2
      refine zw_ite (fun h11 => ?_) (fun h11 => ?_)
      · exact zw_some ⟨hImh, hFmh, hRK54mh, trivial⟩
      · refine zw_ite (fun h12 => ?_) (fun h12 => ?_)
        · have w13 := zu_w32_id (z := x5 + 1) (by omega) (by omega)
          have hM : (48 - (zu_w32 (x5 + 1))) * 1 + (48 - x5) * 49 + 0 < (k : Int) := by omega
          exact ih.2.2 x5 (zu_w32 (x5 + 1)) mh hImh hFmh ⟨by omega, by omega⟩ ⟨by omega, by omega⟩ ⟨by omega, by omega⟩ ⟨by omega, by omega⟩ ⟨by omega, by omega⟩ ⟨by omega, by omega⟩ hRK54mh hM
        · refine zw_bd (zw_mono (zk_287 n hImh hc0 ⟨by omega, by omega⟩ ⟨by omega, by omega⟩ ⟨by omega, by omega⟩ hRK54mh) (fun v15 m14 hqm14 => ?_))
          obtain ⟨hIm14, hfm14, hvm14⟩ := hqm14
          have hFm14 := zfr_tr hFmh hfm14 rfl
          obtain ⟨hRK54m14, hvm14⟩ := hvm14
          have w16 := zu_w32_id (z := x5 + 1) (by omega) (by omega)
          have hM : (48 - (zu_w32 (x5 + 1))) * 1 + (48 - x5) * 49 + 0 < (k : Int) := by omega
          exact ih.2.2 x5 (zu_w32 (x5 + 1)) m14 hIm14 hFm14 ⟨by omega, by omega⟩ ⟨by omega, by omega⟩ ⟨by omega, by omega⟩ ⟨by omega, by omega⟩ ⟨by omega, by omega⟩ ⟨by omega, by omega⟩ hRK54m14 hM
    · intro x5 x6 mh hImh hFmh hba1 hba2 hba3 hba4 hbx5 hbx6 hRK54mh hM
      refine zw_eq (zu_rega_at (zt_T n) (zm_285 n) (zdp_285 n) _ _ _ _ _ _ (zr_285_92 n _ _ a0 a1 a2 a3 a4 x5 x6 mh)) ?_
      have r17 : 1 ≤ (mh 50 2) ∧ (mh 50 2) ≤ 48 := zi_rd hImh zq_50 zb_11_2
      refine zw_ite (fun h18 => ?_) (fun h18 => ?_)
      · have w19 := zu_w32_id (z := x5 + 1) (by omega) (by omega)
        have hM : (48 - (zu_w32 (x5 + 1))) * 49 + 48 < (k : Int) := by omega
        exact zw_le (zu_forget (zu_lr_same (zu_lr_same (zu_lr_same (zu_lr_same (zu_lr_same (zu_lr_same (zu_lr_drop zu_lr_nil)))))))) (ih.2.1 (zu_w32 (x5 + 1)) mh hImh hFmh ⟨by omega, by omega⟩ ⟨by omega, by omega⟩ ⟨by omega, by omega⟩ ⟨by omega, by omega⟩ ⟨by omega, by omega⟩ hRK54mh hM)
      · refine zw_ite (fun h20 => ?_) (fun h20 => ?_)
        · have w21 := zu_w32_id (z := x5 + 1) (by omega) (by omega)
          have hM : (48 - (zu_w32 (x5 + 1))) * 49 + 48 < (k : Int) := by omega
          exact zw_le (zu_forget (zu_lr_same (zu_lr_same (zu_lr_same (zu_lr_same (zu_lr_same (zu_lr_same (zu_lr_drop zu_lr_nil)))))))) (ih.2.1 (zu_w32 (x5 + 1)) mh hImh hFmh ⟨by omega, by omega⟩ ⟨by omega, by omega⟩ ⟨by omega, by omega⟩ ⟨by omega, by omega⟩ ⟨by omega, by omega⟩ hRK54mh hM)
        · refine zw_bd (zw_mono (zk_287 n hImh hc0 ⟨by omega, by omega⟩ ⟨by omega, by omega⟩ ⟨by omega, by omega⟩ hRK54mh) (fun v23 m22 hqm22 => ?_))
          obtain ⟨hIm22, hfm22, hvm22⟩ := hqm22
          have hFm22 := zfr_tr hFmh hfm22 rfl
          obtain ⟨hRK54m22, hvm22⟩ := hvm22
          have w24 := zu_w32_id (z := x6 + 1) (by omega) (by omega)
          have hM : (48 - (zu_w32 (x6 + 1))) * 1 + (48 - x5) * 49 + 0 < (k : Int) := by omega
          exact ih.2.2 x5 (zu_w32 (x6 + 1)) m22 hIm22 hFm22 ⟨by omega, by omega⟩ ⟨by omega, by omega⟩ ⟨by omega, by omega⟩ ⟨by omega, by omega⟩ ⟨by omega, by omega⟩ ⟨by omega, by omega⟩ hRK54m22 hM
set_option maxHeartbeats 4000000 in
theorem zk_285 (n : Nat) {a0 a1 a2 a3 a4 : Int} {m0 : zu_m} (hIm0 : zi_I m0) (hc0 : zcls a0 = 24) (ha1 : 1 ≤ a1 ∧ a1 ≤ 2) (ha2 : 0 ≤ a2 ∧ a2 ≤ 3) (ha3 : 0 ≤ a3 ∧ a3 ≤ 9) (ha4 : 1 ≤ a4 ∧ a4 ≤ 40)    (hRK54m0 : zR_K54 m0) : zw (zu_call (zt_T n) 285 [(33, a0), (0, a1), (0, a2), (0, a3), (0, a4)] m0) (fun v m => zi_I m ∧ zfr [(24, 7), (24, 14), (24, 15), (24, 16), (25, 3), (25, 5), (25, 9), (25, 10), (25, 11), (25, 12), (26, 1), (26, 2), (26, 3), (26, 4), (27, 1), (27, 2), (27, 3), (27, 4), (27, 5), (27, 6), (27, 7), (27, 8), (56, 0), (59, 1), (59, 2), (59, 3), (59, 4), (59, 5), (59, 6), (59, 7), (85, 0), (86, 0), (87, 0), (88, 0), (89, 0), (90, 0), (91, 0), (92, 0), (97, 0), (98, 0)] m0 m ∧ zR_K54 m ∧ True) := by
  have hFm0 : zfr [(24, 7), (24, 14), (24, 15), (24, 16), (25, 3), (25, 5), (25, 9), (25, 10), (25, 11), (25, 12), (26, 1), (26, 2), (26, 3), (26, 4), (27, 1), (27, 2), (27, 3), (27, 4), (27, 5), (27, 6), (27, 7), (27, 8), (56, 0), (59, 1), (59, 2), (59, 3), (59, 4), (59, 5), (59, 6), (59, 7), (85, 0), (86, 0), (87, 0), (88, 0), (89, 0), (90, 0), (91, 0), (92, 0), (97, 0), (98, 0)] m0 m0 := zfr_rf _ _
  refine zw_eq (zu_call_at (zt_T n) (zm_285 n) (zdp_285 n) _ _ _ _ _ rfl (zr_285_0 n _ _ a0 a1 a2 a3 a4 m0)) ?_
  generalize hmm25 : zu_up m0 a0 13 a2 = m25
  have hIm25 := zi_up hmm25 hIm0 hc0 zb_24_13 (by omega) (by omega)
  have hFm25 := zfr_up hmm25 hFm0 hc0 rfl
  have hRK54m25 := zR_K54_fr (zdis_fr (zfr_up hmm25 (zfr_rf [(24, 14)] _) hc0 rfl) rfl) hRK54m0
  generalize hmm26 : zu_up m25 a0 14 a3 = m26
  have hIm26 := zi_up hmm26 hIm25 hc0 zb_24_14 (by omega) (by omega)
  have hFm26 := zfr_up hmm26 hFm25 hc0 rfl
  have hRK54m26 := zR_K54_fr (zdis_fr (zfr_up hmm26 (zfr_rf [(24, 15)] _) hc0 rfl) rfl) hRK54m25
  have hM : (256 - 0) * 1 + 2401 < ((2658 : Nat) : Int) := by omega
  exact (zl_285 n (m0 := m0) hc0 2658).1 0 m26 hIm26 hFm26 ⟨by omega, by omega⟩ ⟨by omega, by omega⟩ ⟨by omega, by omega⟩ ⟨by omega, by omega⟩ ⟨by omega, by omega⟩ hRK54m26 hM
set_option maxHeartbeats 4000000 in
theorem zl_300 (n : Nat) {a0 a1 : Int} {m0 : zu_m} (hc0 : zcls a0 = 24)   : ∀ k : Nat, (∀ (x2 x3 x4 : Int) (mh : zu_m), zi_I mh → zfr [(25, 3), (25, 5), (25, 9), (25, 10), (25, 11), (25, 12), (26, 1), (26, 2), (26, 3), (26, 4), (27, 1), (27, 2), (27, 3), (27, 4), (27, 5), (27, 6), (27, 7), (27, 8), (56, 0), (59, 1), (59, 2), (59, 3), (59, 4), (59, 5), (59, 6), (59, 7), (97, 0), (98, 0)] m0 mh → (1 ≤ a1 ∧ a1 ≤ 200) → (0 ≤ x2 ∧ x2 ≤ 2) → ((-2147483648) ≤ x3 ∧ x3 ≤ 1000000) → (0 ≤ x4 ∧ x4 ≤ 3) → (zR_K54 mh) → (3 - x4) * 1 + 0 < (k : Int) → zw (zu_ex (zt_T n) 300 8 [(33, a0), (0, a1), (0, x2), (0, x3), (0, x4), (2, 0)] [] mh) (fun v m => zi_I m ∧ zfr [(25, 3), (25, 5), (25, 9), (25, 10), (25, 11), (25, 12), (26, 1), (26, 2), (26, 3), (26, 4), (27, 1), (27, 2), (27, 3), (27, 4), (27, 5), (27, 6), (27, 7), (27, 8), (56, 0), (59, 1), (59, 2), (59, 3), (59, 4), (59, 5), (59, 6), (59, 7), (97, 0), (98, 0)] m0 m ∧ zR_K54 m ∧ (0 ≤ v ∧ v ≤ 2))) := by
  intro k
  induction k with
  | zero => exact fun x2 x3 x4 mh hImh hFmh hba1 hbx2 hbx3 hbx4 hRK54mh hM => by exfalso; omega
  | succ k ih =>
    intro x2 x3 x4 mh hImh hFmh hba1 hbx2 hbx3 hbx4 hRK54mh hM
    refine zw_eq (zu_rega_at (zt_T n) (zm_300 n) (zdp_300 n) _ _ _ _ _ _ (zr_300_8 n _ _ a0 a1 x2 x3 x4 mh)) ?_
    refine zw_ite (fun h1 => ?_) (fun h1 => ?_)
    · exact zw_some ⟨hImh, hFmh, hRK54mh, ⟨by omega, by omega⟩⟩
    · refine zw_bd (zw_mono (zk_299 n hImh hc0 ⟨by omega, by omega⟩ ⟨by omega, by omega⟩ hRK54mh) (fun v3 m2 hqm2 => ?_))
      obtain ⟨hIm2, hfm2, hvm2⟩ := hqm2
      have hFm2 := zfr_tr hFmh hfm2 rfl
      obtain ⟨hRK54m2, hvm2⟩ := hvm2
      refine zw_ite (fun h4 => ?_) (fun h4 => ?_)
      · have w5 := zu_w32_id (z := x4 + 1) (by omega) (by omega)
        have hM : (3 - (zu_w32 (x4 + 1))) * 1 + 0 < (k : Int) := by omega
        exact zw_le (zu_forget (zu_lr_same (zu_lr_same (zu_lr_same (zu_lr_same (zu_lr_same (zu_lr_drop zu_lr_nil))))))) (ih x2 x3 (zu_w32 (x4 + 1)) m2 hIm2 hFm2 ⟨by omega, by omega⟩ ⟨by omega, by omega⟩ ⟨by omega, by omega⟩ ⟨by omega, by omega⟩ hRK54m2 hM)
      · have w6 := zu_w32_id (z := x4 + 1) (by omega) (by omega)
        have hM : (3 - (zu_w32 (x4 + 1))) * 1 + 0 < (k : Int) := by omega
        exact zw_le (zu_forget (zu_lr_same (zu_lr_same (zu_lr_same (zu_lr_same (zu_lr_same (zu_lr_drop zu_lr_nil))))))) (ih x4 v3 (zu_w32 (x4 + 1)) m2 hIm2 hFm2 ⟨by omega, by omega⟩ ⟨by omega, by omega⟩ ⟨by omega, by omega⟩ ⟨by omega, by omega⟩ hRK54m2 hM)
set_option maxHeartbeats 4000000 in
theorem zk_300 (n : Nat) {a0 a1 : Int} {m0 : zu_m} (hIm0 : zi_I m0) (hc0 : zcls a0 = 24) (ha1 : 1 ≤ a1 ∧ a1 ≤ 200)    (hRK54m0 : zR_K54 m0) : zw (zu_call (zt_T n) 300 [(33, a0), (0, a1)] m0) (fun v m => zi_I m ∧ zfr [(25, 3), (25, 5), (25, 9), (25, 10), (25, 11), (25, 12), (26, 1), (26, 2), (26, 3), (26, 4), (27, 1), (27, 2), (27, 3), (27, 4), (27, 5), (27, 6), (27, 7), (27, 8), (56, 0), (59, 1), (59, 2), (59, 3), (59, 4), (59, 5), (59, 6), (59, 7), (97, 0), (98, 0)] m0 m ∧ zR_K54 m ∧ (0 ≤ v ∧ v ≤ 2)) := by
  have hFm0 : zfr [(25, 3), (25, 5), (25, 9), (25, 10), (25, 11), (25, 12), (26, 1), (26, 2), (26, 3), (26, 4), (27, 1), (27, 2), (27, 3), (27, 4), (27, 5), (27, 6), (27, 7), (27, 8), (56, 0), (59, 1), (59, 2), (59, 3), (59, 4), (59, 5), (59, 6), (59, 7), (97, 0), (98, 0)] m0 m0 := zfr_rf _ _
  refine zw_eq (zu_call_at (zt_T n) (zm_300 n) (zdp_300 n) _ _ _ _ _ rfl (zr_300_0 n _ _ a0 a1 m0)) ?_
  have hM : (3 - 0) * 1 + 0 < ((4 : Nat) : Int) := by omega
  exact (zl_300 n (m0 := m0) hc0 4) 0 1000000 0 m0 hIm0 hFm0 ⟨by omega, by omega⟩ ⟨by omega, by omega⟩ ⟨by omega, by omega⟩ ⟨by omega, by omega⟩ hRK54m0 hM
set_option maxHeartbeats 4000000 in
theorem zl_301 (n : Nat) {a0 a1 : Int} {m0 : zu_m} (hc0 : zcls a0 = 24)   : ∀ k : Nat, (∀ (x2 x3 : Int) (mh : zu_m), zi_I mh → zfr [(25, 3), (25, 5), (25, 9), (25, 10), (25, 11), (25, 12), (26, 1), (26, 2), (26, 3), (26, 4), (27, 1), (27, 2), (27, 3), (27, 4), (27, 5), (27, 6), (27, 7), (27, 8), (56, 0), (59, 1), (59, 2), (59, 3), (59, 4), (59, 5), (59, 6), (59, 7), (80, 0), (97, 0), (98, 0)] m0 mh → (0 ≤ a1 ∧ a1 ≤ 3) → ((-2147483648) ≤ x2 ∧ x2 ≤ 2147483647) → (0 ≤ x3 ∧ x3 ≤ 31) → (zR_K54 mh) → (31 - x3) * 1 + 0 < (k : Int) → zw (zu_ex (zt_T n) 301 11 [(33, a0), (0, a1), (0, x2), (0, x3)] [] mh) (fun v m => zi_I m ∧ zfr [(25, 3), (25, 5), (25, 9), (25, 10), (25, 11), (25, 12), (26, 1), (26, 2), (26, 3), (26, 4), (27, 1), (27, 2), (27, 3), (27, 4), (27, 5), (27, 6), (27, 7), (27, 8), (56, 0), (59, 1), (59, 2), (59, 3), (59, 4), (59, 5), (59, 6), (59, 7), (80, 0), (97, 0), (98, 0)] m0 m ∧ zR_K54 m ∧ ((-2147483648) ≤ v ∧ v ≤ 2147483647))) := by
  intro k
  induction k with
  | zero => exact fun x2 x3 mh hImh hFmh hba1 hbx2 hbx3 hRK54mh hM => by exfalso; omega
  | succ k ih =>
    intro x2 x3 mh hImh hFmh hba1 hbx2 hbx3 hRK54mh hM
    refine zw_eq (zu_rega_at (zt_T n) (zm_301 n) (zdp_301 n) _ _ _ _ _ _ (zr_301_11 n _ _ a0 a1 x2 x3 mh)) ?_
    refine zw_ite (fun h1 => ?_) (fun h1 => ?_)
    · exact zw_some ⟨hImh, hFmh, hRK54mh, ⟨by omega, by omega⟩⟩
    · refine zw_bd (zw_mono (zk_302 n hImh hc0 ⟨by omega, by omega⟩ ⟨by omega, by omega⟩ hRK54mh) (fun v3 m2 hqm2 => ?_))
      obtain ⟨hIm2, hfm2, hvm2⟩ := hqm2
      have hFm2 := zfr_tr hFmh hfm2 rfl
      obtain ⟨hRK54m2, hvm2⟩ := hvm2
      refine zw_ite (fun h4 => ?_) (fun h4 => ?_)
      · have w5 := zu_w32_id (z := x3 + 1) (by omega) (by omega)
        have hM : (31 - (zu_w32 (x3 + 1))) * 1 + 0 < (k : Int) := by omega
        exact ih x2 (zu_w32 (x3 + 1)) m2 hIm2 hFm2 ⟨by omega, by omega⟩ ⟨by omega, by omega⟩ ⟨by omega, by omega⟩ hRK54m2 hM
      · have b6 := zu_i32_rg 5 1 x3
        have b7 := zu_i32_rg 4 x2 (zu_i32 5 1 x3)
        have w8 := zu_w32_id (z := x3 + 1) (by omega) (by omega)
        have hM : (31 - (zu_w32 (x3 + 1))) * 1 + 0 < (k : Int) := by omega
        exact ih (zu_i32 4 x2 (zu_i32 5 1 x3)) (zu_w32 (x3 + 1)) m2 hIm2 hFm2 ⟨by omega, by omega⟩ ⟨by omega, by omega⟩ ⟨by omega, by omega⟩ hRK54m2 hM
set_option maxHeartbeats 4000000 in
theorem zk_301 (n : Nat) {a0 a1 : Int} {m0 : zu_m} (hIm0 : zi_I m0) (hc0 : zcls a0 = 24) (ha1 : 0 ≤ a1 ∧ a1 ≤ 3)    (hRK54m0 : zR_K54 m0) : zw (zu_call (zt_T n) 301 [(33, a0), (0, a1)] m0) (fun v m => zi_I m ∧ zfr [(25, 3), (25, 5), (25, 9), (25, 10), (25, 11), (25, 12), (26, 1), (26, 2), (26, 3), (26, 4), (27, 1), (27, 2), (27, 3), (27, 4), (27, 5), (27, 6), (27, 7), (27, 8), (56, 0), (59, 1), (59, 2), (59, 3), (59, 4), (59, 5), (59, 6), (59, 7), (80, 0), (97, 0), (98, 0)] m0 m ∧ zR_K54 m ∧ ((-2147483648) ≤ v ∧ v ≤ 2147483647)) := by
  have hFm0 : zfr [(25, 3), (25, 5), (25, 9), (25, 10), (25, 11), (25, 12), (26, 1), (26, 2), (26, 3), (26, 4), (27, 1), (27, 2), (27, 3), (27, 4), (27, 5), (27, 6), (27, 7), (27, 8), (56, 0), (59, 1), (59, 2), (59, 3), (59, 4), (59, 5), (59, 6), (59, 7), (80, 0), (97, 0), (98, 0)] m0 m0 := zfr_rf _ _
  refine zw_eq (zu_call_at (zt_T n) (zm_301 n) (zdp_301 n) _ _ _ _ _ rfl (zr_301_0 n _ _ a0 a1 m0)) ?_
  refine zw_bd (zw_mono (zk_274 n hIm0 zq_141) (fun v10 m9 hqm9 => ?_))
  obtain ⟨hIm9, hfm9, hvm9⟩ := hqm9
  have hFm9 := zfr_tr hFm0 hfm9 rfl
  have hRK54m9 := zR_K54_fr (zdis_fr hfm9 rfl) hRK54m0
  have hM : (31 - 0) * 1 + 0 < ((32 : Nat) : Int) := by omega
  exact (zl_301 n (m0 := m0) hc0 32) 0 0 m9 hIm9 hFm9 ⟨by omega, by omega⟩ ⟨by omega, by omega⟩ ⟨by omega, by omega⟩ hRK54m9 hM
set_option maxHeartbeats 4000000 in
theorem zk_42 (n : Nat) {a0 a1 : Int} {m0 : zu_m} (hIm0 : zi_I m0) (hc0 : zcls a0 = 2) (ha1 : (-2147483648) ≤ a1 ∧ a1 ≤ 2147483647)    (hRBNm0 : zR_BN m0) (hRK10m0 : zR_K10 m0) : zw (zu_call (zt_T n) 42 [(5, a0), (0, a1)] m0) (fun v m => zi_I m ∧ zfr [(2, 2), (2, 3), (2, 4), (2, 10), (3, 5), (3, 6), (3, 7), (3, 8), (3, 9), (3, 10), (3, 11), (4, 1), (4, 2), (4, 3), (4, 4), (4, 5), (4, 6), (5, 6), (5, 7), (6, 3), (6, 5), (6, 9), (6, 10), (6, 11), (6, 12), (7, 1), (7, 2), (7, 3), (7, 4), (8, 1), (8, 2), (8, 3), (8, 4), (8, 5), (8, 6), (8, 7), (9, 3), (9, 4), (9, 5), (9, 6), (9, 7), (10, 4), (10, 5), (10, 7), (10, 8), (11, 1), (11, 2), (11, 3), (11, 4), (11, 5), (11, 6), (12, 6), (12, 7), (13, 3), (13, 5), (13, 9), (13, 10), (13, 11), (13, 12), (14, 1), (14, 2), (14, 3), (14, 4), (15, 1), (15, 2), (15, 3), (15, 4), (15, 5), (15, 6), (15, 7), (15, 8), (16, 3), (16, 5), (16, 9), (16, 10), (16, 11), (16, 12), (17, 1), (17, 2), (17, 3), (17, 4), (18, 1), (18, 2), (18, 3), (18, 4), (18, 5), (18, 6), (18, 7), (18, 8), (22, 7), (22, 8), (23, 5), (30, 0), (31, 0), (32, 0), (33, 0), (34, 0), (35, 0), (36, 0), (43, 0), (44, 0), (47, 0), (48, 0), (49, 0), (50, 0), (51, 0), (52, 0), (53, 0), (54, 0), (55, 0), (56, 0), (57, 0), (58, 0), (59, 1), (59, 2), (59, 3), (59, 4), (59, 5), (59, 6), (59, 7), (62, 0), (63, 0), (67, 0), (68, 0)] m0 m ∧ zR_BN m ∧ zR_K10 m ∧ ((-2147483648) ≤ v ∧ v ≤ 2147483647)) := by
  have hFm0 : zfr [(2, 2), (2, 3), (2, 4), (2, 10), (3, 5), (3, 6), (3, 7), (3, 8), (3, 9), (3, 10), (3, 11), (4, 1), (4, 2), (4, 3), (4, 4), (4, 5), (4, 6), (5, 6), (5, 7), (6, 3), (6, 5), (6, 9), (6, 10), (6, 11), (6, 12), (7, 1), (7, 2), (7, 3), (7, 4), (8, 1), (8, 2), (8, 3), (8, 4), (8, 5), (8, 6), (8, 7), (9, 3), (9, 4), (9, 5), (9, 6), (9, 7), (10, 4), (10, 5), (10, 7), (10, 8), (11, 1), (11, 2), (11, 3), (11, 4), (11, 5), (11, 6), (12, 6), (12, 7), (13, 3), (13, 5), (13, 9), (13, 10), (13, 11), (13, 12), (14, 1), (14, 2), (14, 3), (14, 4), (15, 1), (15, 2), (15, 3), (15, 4), (15, 5), (15, 6), (15, 7), (15, 8), (16, 3), (16, 5), (16, 9), (16, 10), (16, 11), (16, 12), (17, 1), (17, 2), (17, 3), (17, 4), (18, 1), (18, 2), (18, 3), (18, 4), (18, 5), (18, 6), (18, 7), (18, 8), (22, 7), (22, 8), (23, 5), (30, 0), (31, 0), (32, 0), (33, 0), (34, 0), (35, 0), (36, 0), (43, 0), (44, 0), (47, 0), (48, 0), (49, 0), (50, 0), (51, 0), (52, 0), (53, 0), (54, 0), (55, 0), (56, 0), (57, 0), (58, 0), (59, 1), (59, 2), (59, 3), (59, 4), (59, 5), (59, 6), (59, 7), (62, 0), (63, 0), (67, 0), (68, 0)] m0 m0 := zfr_rf _ _
  refine zw_eq (zu_call_at (zt_T n) (zm_42 n) (zdp_42 n) _ _ _ _ _ rfl (zr_42_0 n _ _ a0 a1 m0)) ?_
  refine zw_ite (fun h1 => ?_) (fun h1 => ?_)
  · exact zw_some ⟨hIm0, hFm0, hRBNm0, hRK10m0, ⟨by omega, by omega⟩⟩
  · have r2 : 0 ≤ (m0 a0 1) ∧ (m0 a0 1) ≤ 700 := zi_rd hIm0 hc0 zb_2_1
    refine zw_ite (fun h3 => ?_) (fun h3 => ?_)
    · refine zw_bd (zw_mono (zk_12 n hIm0 zq_5 ⟨by omega, by omega⟩ hRBNm0 hRK10m0) (fun v5 m4 hqm4 => ?_))
      obtain ⟨hIm4, hfm4, hvm4⟩ := hqm4
      have hFm4 := zfr_tr hFm0 hfm4 rfl
      obtain ⟨hRBNm4, hRK10m4, hvm4⟩ := hvm4
      generalize hmm6 : zu_up m4 a0 1 0 = m6
      have hIm6 := zi_up hmm6 hIm4 hc0 zb_2_1 (by omega) (by omega)
      have hFm6 := zfr_up hmm6 hFm4 hc0 rfl
      have hRBNm6 := zR_BN_fr (zdis_fr (zfr_up hmm6 (zfr_rf [(2, 2)] _) hc0 rfl) rfl) hRBNm4
      have hRK10m6 := zR_K10_fr (zdis_fr (zfr_up hmm6 (zfr_rf [(2, 2)] _) hc0 rfl) rfl) hRK10m4
      have r7 : (-2147483648) ≤ (m6 5 9) ∧ (m6 5 9) ≤ 2147483647 := zi_rd hIm6 zq_5 zb_3_9
      generalize hmm8 : zu_up m6 a0 2 (m6 5 9) = m8
      have hIm8 := zi_up hmm8 hIm6 hc0 zb_2_2 (by omega) (by omega)
      have hFm8 := zfr_up hmm8 hFm6 hc0 rfl
      have hRBNm8 := zR_BN_fr (zdis_fr (zfr_up hmm8 (zfr_rf [(2, 3)] _) hc0 rfl) rfl) hRBNm6
      have hRK10m8 := zR_K10_fr (zdis_fr (zfr_up hmm8 (zfr_rf [(2, 3)] _) hc0 rfl) rfl) hRK10m6
      have r9 : (-2147483648) ≤ (m8 5 10) ∧ (m8 5 10) ≤ 2147483647 := zi_rd hIm8 zq_5 zb_3_10
      generalize hmm10 : zu_up m8 a0 3 (m8 5 10) = m10
      have hIm10 := zi_up hmm10 hIm8 hc0 zb_2_3 (by omega) (by omega)
      have hFm10 := zfr_up hmm10 hFm8 hc0 rfl
      have hRBNm10 := zR_BN_fr (zdis_fr (zfr_up hmm10 (zfr_rf [(2, 4)] _) hc0 rfl) rfl) hRBNm8
      have hRK10m10 := zR_K10_fr (zdis_fr (zfr_up hmm10 (zfr_rf [(2, 4)] _) hc0 rfl) rfl) hRK10m8
      have r11 : (-2147483648) ≤ (m10 a0 2) ∧ (m10 a0 2) ≤ 2147483647 := zi_rd hIm10 hc0 zb_2_2
      have e12 : (m10 a0 2) = (m6 5 9) := (Eq.trans (zs_ne hmm10 (Or.inr (by decide))) (zs_eq hmm8))
      refine zw_ite (fun h13 => ?_) (fun h13 => ?_)
      · refine zw_bd (zw_mono (zk_19 n hIm10 hc0 hRK10m10) (fun v15 m14 hqm14 => ?_))
        obtain ⟨hIm14, hfm14, hvm14⟩ := hqm14
        have hFm14 := zfr_tr hFm10 hfm14 rfl
        obtain ⟨hRK10m14, hRK54m14, hvm14⟩ := hvm14
        have hRBNm14 := zR_BN_fr (zdis_fr hfm14 rfl) hRBNm10
        exact zw_some ⟨hIm14, hFm14, hRBNm14, hRK10m14, ⟨by omega, by omega⟩⟩
      · exact zw_some ⟨hIm10, hFm10, hRBNm10, hRK10m10, ⟨by omega, by omega⟩⟩
    · exact zw_some ⟨hIm0, hFm0, hRBNm0, hRK10m0, ⟨by omega, by omega⟩⟩
set_option maxHeartbeats 4000000 in
theorem zk_61 (n : Nat) {a0 a1 a2 a3 a4 a5 : Int} {m0 : zu_m} (hIm0 : zi_I m0) (hc0 : zcls a0 = 2) (ha1 : (-2147483648) ≤ a1 ∧ a1 ≤ 2147483647) (ha2 : (-2147483648) ≤ a2 ∧ a2 ≤ 2147483647) (ha3 : (-2147483648) ≤ a3 ∧ a3 ≤ 2147483647) (ha4 : (-2147483648) ≤ a4 ∧ a4 ≤ 2147483647) (ha5 : (-2147483648) ≤ a5 ∧ a5 ≤ 2147483647)    (hRK54m0 : zR_K54 m0) : zw (zu_call (zt_T n) 61 [(5, a0), (0, a1), (0, a2), (0, a3), (0, a4), (0, a5)] m0) (fun v m => zi_I m ∧ zfr [(24, 7), (24, 14), (24, 15), (24, 16), (25, 3), (25, 5), (25, 9), (25, 10), (25, 11), (25, 12), (26, 1), (26, 2), (26, 3), (26, 4), (27, 1), (27, 2), (27, 3), (27, 4), (27, 5), (27, 6), (27, 7), (27, 8), (56, 0), (59, 1), (59, 2), (59, 3), (59, 4), (59, 5), (59, 6), (59, 7), (85, 0), (86, 0), (87, 0), (88, 0), (89, 0), (90, 0), (91, 0), (92, 0), (97, 0), (98, 0)] m0 m ∧ zR_K54 m ∧ ((-2147483648) ≤ v ∧ v ≤ 2147483647)) := by
  have hFm0 : zfr [(24, 7), (24, 14), (24, 15), (24, 16), (25, 3), (25, 5), (25, 9), (25, 10), (25, 11), (25, 12), (26, 1), (26, 2), (26, 3), (26, 4), (27, 1), (27, 2), (27, 3), (27, 4), (27, 5), (27, 6), (27, 7), (27, 8), (56, 0), (59, 1), (59, 2), (59, 3), (59, 4), (59, 5), (59, 6), (59, 7), (85, 0), (86, 0), (87, 0), (88, 0), (89, 0), (90, 0), (91, 0), (92, 0), (97, 0), (98, 0)] m0 m0 := zfr_rf _ _
  refine zw_eq (zu_call_at (zt_T n) (zm_61 n) (zdp_61 n) _ _ _ _ _ rfl (zr_61_0 n _ _ a0 a1 a2 a3 a4 a5 m0)) ?_
  refine zw_ite (fun h1 => ?_) (fun h1 => ?_)
  · exact zw_some ⟨hIm0, hFm0, hRK54m0, ⟨by omega, by omega⟩⟩
  · refine zw_ite (fun h2 => ?_) (fun h2 => ?_)
    · exact zw_some ⟨hIm0, hFm0, hRK54m0, ⟨by omega, by omega⟩⟩
    · refine zw_bd (zw_eq (zu_call_at (zt_T n) (zm_51 n) (zdp_51 n) _ _ _ _ _ rfl (zr_51_0 n _ _ a2 m0)) ?_)
      refine zw_ite (fun h3 => ?_) (fun h3 => ?_)
      · refine zw_b (by omega) ?_
        refine zw_some ?_
        refine zw_ite (fun h4 => ?_) (fun h4 => ?_)
        · exact zw_some ⟨hIm0, hFm0, hRK54m0, ⟨by omega, by omega⟩⟩
        · exfalso; omega
      · refine zw_ite (fun h5 => ?_) (fun h5 => ?_)
        · refine zw_b (by omega) ?_
          refine zw_some ?_
          refine zw_ite (fun h6 => ?_) (fun h6 => ?_)
          · exact zw_some ⟨hIm0, hFm0, hRK54m0, ⟨by omega, by omega⟩⟩
          · exfalso; omega
        · refine zw_b (by omega) ?_
          refine zw_some ?_
          refine zw_ite (fun h7 => ?_) (fun h7 => ?_)
          · exfalso; omega
          · refine zw_bd (zw_eq (zu_call_at (zt_T n) (zm_52 n) (zdp_52 n) _ _ _ _ _ rfl (zr_52_0 n _ _ a3 m0)) ?_)
            refine zw_ite (fun h8 => ?_) (fun h8 => ?_)
            · refine zw_b (by omega) ?_
              refine zw_some ?_
              refine zw_ite (fun h9 => ?_) (fun h9 => ?_)
              · exact zw_some ⟨hIm0, hFm0, hRK54m0, ⟨by omega, by omega⟩⟩
              · exfalso; omega
            · refine zw_ite (fun h10 => ?_) (fun h10 => ?_)
              · refine zw_b (by omega) ?_
                refine zw_some ?_
                refine zw_ite (fun h11 => ?_) (fun h11 => ?_)
                · exact zw_some ⟨hIm0, hFm0, hRK54m0, ⟨by omega, by omega⟩⟩
                · exfalso; omega
              · refine zw_b (by omega) ?_
                refine zw_some ?_
                refine zw_ite (fun h12 => ?_) (fun h12 => ?_)
                · exfalso; omega
                · refine zw_ite (fun h13 => ?_) (fun h13 => ?_)
                  · exact zw_some ⟨hIm0, hFm0, hRK54m0, ⟨by omega, by omega⟩⟩
                  · refine zw_ite (fun h14 => ?_) (fun h14 => ?_)
                    · exact zw_some ⟨hIm0, hFm0, hRK54m0, ⟨by omega, by omega⟩⟩
                    · refine zw_ite (fun h15 => ?_) (fun h15 => ?_)
                      · exact zw_some ⟨hIm0, hFm0, hRK54m0, ⟨by omega, by omega⟩⟩
                      · refine zw_ite (fun h16 => ?_) (fun h16 => ?_)
                        · exact zw_some ⟨hIm0, hFm0, hRK54m0, ⟨by omega, by omega⟩⟩
                        · have r17 : 0 ≤ (m0 89 4) ∧ (m0 89 4) ≤ 4 := zi_rd hIm0 zq_89 zb_16_4
                          refine zw_ite (fun h18 => ?_) (fun h18 => ?_)
                          · have r19 : 1 ≤ (m0 50 2) ∧ (m0 50 2) ≤ 48 := zi_rd hIm0 zq_50 zb_11_2
                            refine zw_ite (fun h20 => ?_) (fun h20 => ?_)
                            · refine zw_ite (fun h21 => ?_) (fun h21 => ?_)
                              · refine zw_bd (zw_mono (zk_285 n hIm0 zq_153 ⟨by omega, by omega⟩ ⟨by omega, by omega⟩ ⟨by omega, by omega⟩ ⟨by omega, by omega⟩ hRK54m0) (fun v23 m22 hqm22 => ?_))
                                obtain ⟨hIm22, hfm22, hvm22⟩ := hqm22
                                have hFm22 := zfr_tr hFm0 hfm22 rfl
                                obtain ⟨hRK54m22, hvm22⟩ := hvm22
                                refine zw_ite (fun h24 => ?_) (fun h24 => ?_)
                                · have w25 := zu_w32_id (z := a5 - 1) (by omega) (by omega)
                                  have b26 : 0 ≤ (zu_w32 (a5 - 1)) ∧ (zu_w32 (a5 - 1)) < 2 := by omega
                                  refine zw_if b26 ?_
                                  have r27 : 0 ≤ (m22 161 (zu_w32 (a5 - 1))) ∧ (m22 161 (zu_w32 (a5 - 1))) ≤ 47 := zi_rd hIm22 zq_161 (zb_92 _)
                                  exact zw_some ⟨hIm22, hFm22, hRK54m22, ⟨by omega, by omega⟩⟩
                                · have r28 : (-2147483648) ≤ (m22 153 15) ∧ (m22 153 15) ≤ 2147483647 := zi_rd hIm22 zq_153 zb_24_15
                                  exact zw_some ⟨hIm22, hFm22, hRK54m22, ⟨by omega, by omega⟩⟩
                              · exact zw_some ⟨hIm0, hFm0, hRK54m0, ⟨by omega, by omega⟩⟩
                            · exact zw_some ⟨hIm0, hFm0, hRK54m0, ⟨by omega, by omega⟩⟩
                          · exact zw_some ⟨hIm0, hFm0, hRK54m0, ⟨by omega, by omega⟩⟩
set_option maxHeartbeats 4000000 in
theorem zk_64 (n : Nat) {a0 a1 : Int} {m0 : zu_m} (hIm0 : zi_I m0) (hc0 : zcls a0 = 2) (ha1 : (-2147483648) ≤ a1 ∧ a1 ≤ 2147483647)    (hRK54m0 : zR_K54 m0) : zw (zu_call (zt_T n) 64 [(5, a0), (0, a1)] m0) (fun v m => zi_I m ∧ zfr [(25, 3), (25, 5), (25, 9), (25, 10), (25, 11), (25, 12), (26, 1), (26, 2), (26, 3), (26, 4), (27, 1), (27, 2), (27, 3), (27, 4), (27, 5), (27, 6), (27, 7), (27, 8), (56, 0), (59, 1), (59, 2), (59, 3), (59, 4), (59, 5), (59, 6), (59, 7), (97, 0), (98, 0)] m0 m ∧ zR_K54 m ∧ ((-1) ≤ v ∧ v ≤ 2)) := by
  have hFm0 : zfr [(25, 3), (25, 5), (25, 9), (25, 10), (25, 11), (25, 12), (26, 1), (26, 2), (26, 3), (26, 4), (27, 1), (27, 2), (27, 3), (27, 4), (27, 5), (27, 6), (27, 7), (27, 8), (56, 0), (59, 1), (59, 2), (59, 3), (59, 4), (59, 5), (59, 6), (59, 7), (97, 0), (98, 0)] m0 m0 := zfr_rf _ _
  refine zw_eq (zu_call_at (zt_T n) (zm_64 n) (zdp_64 n) _ _ _ _ _ rfl (zr_64_0 n _ _ a0 a1 m0)) ?_
  refine zw_bd (zw_eq (zu_call_at (zt_T n) (zm_53 n) (zdp_53 n) _ _ _ _ _ rfl (zr_53_0 n _ _ a1 m0)) ?_)
  refine zw_ite (fun h1 => ?_) (fun h1 => ?_)
  · refine zw_b (by omega) ?_
    refine zw_some ?_
    refine zw_ite (fun h2 => ?_) (fun h2 => ?_)
    · exact zw_some ⟨hIm0, hFm0, hRK54m0, ⟨by omega, by omega⟩⟩
    · exfalso; omega
  · refine zw_ite (fun h3 => ?_) (fun h3 => ?_)
    · refine zw_b (by omega) ?_
      refine zw_some ?_
      refine zw_ite (fun h4 => ?_) (fun h4 => ?_)
      · exact zw_some ⟨hIm0, hFm0, hRK54m0, ⟨by omega, by omega⟩⟩
      · exfalso; omega
    · refine zw_b (by omega) ?_
      refine zw_some ?_
      refine zw_ite (fun h5 => ?_) (fun h5 => ?_)
      · exfalso; omega
      · refine zw_bd (zw_mono (zk_300 n hIm0 zq_153 ⟨by omega, by omega⟩ hRK54m0) (fun v7 m6 hqm6 => ?_))
        obtain ⟨hIm6, hfm6, hvm6⟩ := hqm6
        have hFm6 := zfr_tr hFm0 hfm6 rfl
        obtain ⟨hRK54m6, hvm6⟩ := hvm6
        exact zw_some ⟨hIm6, hFm6, hRK54m6, ⟨by omega, by omega⟩⟩
set_option maxHeartbeats 4000000 in
theorem zk_75 (n : Nat) {a0 a1 : Int} {m0 : zu_m} (hIm0 : zi_I m0) (hc0 : zcls a0 = 2) (ha1 : (-2147483648) ≤ a1 ∧ a1 ≤ 2147483647)    (hRK54m0 : zR_K54 m0) : zw (zu_call (zt_T n) 75 [(5, a0), (0, a1)] m0) (fun v m => zi_I m ∧ zfr [(25, 3), (25, 5), (25, 9), (25, 10), (25, 11), (25, 12), (26, 1), (26, 2), (26, 3), (26, 4), (27, 1), (27, 2), (27, 3), (27, 4), (27, 5), (27, 6), (27, 7), (27, 8), (56, 0), (59, 1), (59, 2), (59, 3), (59, 4), (59, 5), (59, 6), (59, 7), (80, 0), (97, 0), (98, 0)] m0 m ∧ zR_K54 m ∧ ((-2147483648) ≤ v ∧ v ≤ 2147483647)) := by
  have hFm0 : zfr [(25, 3), (25, 5), (25, 9), (25, 10), (25, 11), (25, 12), (26, 1), (26, 2), (26, 3), (26, 4), (27, 1), (27, 2), (27, 3), (27, 4), (27, 5), (27, 6), (27, 7), (27, 8), (56, 0), (59, 1), (59, 2), (59, 3), (59, 4), (59, 5), (59, 6), (59, 7), (80, 0), (97, 0), (98, 0)] m0 m0 := zfr_rf _ _
  refine zw_eq (zu_call_at (zt_T n) (zm_75 n) (zdp_75 n) _ _ _ _ _ rfl (zr_75_0 n _ _ a0 a1 m0)) ?_
  refine zw_bd (zw_eq (zu_call_at (zt_T n) (zm_211 n) (zdp_211 n) _ _ _ _ _ rfl (zr_211_0 n _ _ 89 a1 m0)) ?_)
  refine zw_ite (fun h1 => ?_) (fun h1 => ?_)
  · refine zw_b (by omega) ?_
    refine zw_some ?_
    refine zw_ite (fun h2 => ?_) (fun h2 => ?_)
    · exact zw_some ⟨hIm0, hFm0, hRK54m0, ⟨by omega, by omega⟩⟩
    · exfalso; omega
  · have r3 : 0 ≤ (m0 89 4) ∧ (m0 89 4) ≤ 4 := zi_rd hIm0 zq_89 zb_16_4
    refine zw_ite (fun h4 => ?_) (fun h4 => ?_)
    · refine zw_b (by omega) ?_
      refine zw_some ?_
      refine zw_ite (fun h5 => ?_) (fun h5 => ?_)
      · exact zw_some ⟨hIm0, hFm0, hRK54m0, ⟨by omega, by omega⟩⟩
      · exfalso; omega
    · refine zw_b (by omega) ?_
      refine zw_some ?_
      refine zw_ite (fun h6 => ?_) (fun h6 => ?_)
      · exfalso; omega
      · refine zw_bd (zw_mono (zk_301 n hIm0 zq_153 ⟨by omega, by omega⟩ hRK54m0) (fun v8 m7 hqm7 => ?_))
        obtain ⟨hIm7, hfm7, hvm7⟩ := hqm7
        have hFm7 := zfr_tr hFm0 hfm7 rfl
        obtain ⟨hRK54m7, hvm7⟩ := hvm7
        exact zw_some ⟨hIm7, hFm7, hRK54m7, ⟨by omega, by omega⟩⟩
set_option maxHeartbeats 4000000 in
theorem zl_106 (n : Nat) {a0 a1 : Int} {m0 : zu_m} (hc0 : zcls a0 = 28)   : ∀ k : Nat, (∀ (x2 : Int) (mh : zu_m), zi_I mh → zfr [(28, 2), (28, 3), (28, 5), (28, 6), (28, 7), (28, 8), (28, 9), (28, 10), (28, 11), (28, 12), (28, 13), (28, 14), (28, 15), (28, 16), (28, 17), (28, 18), (28, 19), (28, 20), (28, 21), (28, 22), (28, 23), (28, 24), (28, 43), (28, 46), (28, 47), (28, 48), (28, 49), (28, 50), (28, 51), (28, 54), (28, 63), (28, 64), (28, 65), (28, 66), (28, 67), (28, 68), (28, 69), (28, 70), (28, 78), (28, 79), (28, 82), (28, 84), (102, 0), (103, 0), (104, 0), (105, 0), (106, 0), (107, 0), (108, 0), (109, 0), (110, 0), (111, 0), (112, 0), (113, 0), (114, 0), (115, 0), (116, 0), (117, 0), (118, 0), (119, 0), (120, 0), (121, 0), (122, 0), (123, 0), (124, 0), (125, 0), (126, 0), (127, 0), (128, 0), (129, 0), (130, 0), (131, 0)] m0 mh → (0 ≤ a1 ∧ a1 ≤ 700) → ((-2147483648) ≤ x2 ∧ x2 ≤ 2147483647) → (0 ≤ mh a0 1 ∧ mh a0 1 ≤ 0) → (0 ≤ mh a0 2 ∧ mh a0 2 ≤ 0) → ((mh a0 21) = (mh a0 48)) → (zR_KN mh) → (zR_NS mh) → (zR_WD mh) → (700 - (mh a0 7)) * 1 + 0 < (k : Int) → zw (zu_ex (zt_T n) 106 55 [(40, a0), (0, a1), (0, x2)] [] mh) (fun v m => zi_I m ∧ zfr [(28, 2), (28, 3), (28, 5), (28, 6), (28, 7), (28, 8), (28, 9), (28, 10), (28, 11), (28, 12), (28, 13), (28, 14), (28, 15), (28, 16), (28, 17), (28, 18), (28, 19), (28, 20), (28, 21), (28, 22), (28, 23), (28, 24), (28, 43), (28, 46), (28, 47), (28, 48), (28, 49), (28, 50), (28, 51), (28, 54), (28, 63), (28, 64), (28, 65), (28, 66), (28, 67), (28, 68), (28, 69), (28, 70), (28, 78), (28, 79), (28, 82), (28, 84), (102, 0), (103, 0), (104, 0), (105, 0), (106, 0), (107, 0), (108, 0), (109, 0), (110, 0), (111, 0), (112, 0), (113, 0), (114, 0), (115, 0), (116, 0), (117, 0), (118, 0), (119, 0), (120, 0), (121, 0), (122, 0), (123, 0), (124, 0), (125, 0), (126, 0), (127, 0), (128, 0), (129, 0), (130, 0), (131, 0)] m0 m ∧ zR_KN m ∧ zR_NS m ∧ zR_WD m ∧ ((-2147483648) ≤ v ∧ v ≤ 2147483647) ∧ (0 ≤ m a0 2 ∧ m a0 2 ≤ 0))) := by
  intro k
  induction k with
  | zero => exact fun x2 mh hImh hFmh hba1 hbx2 hg2 hg3 hH0 hRKNmh hRNSmh hRWDmh hM => by exfalso; omega
  | succ k ih =>
    intro x2 mh hImh hFmh hba1 hbx2 hg2 hg3 hH0 hRKNmh hRNSmh hRWDmh hM
    refine zw_eq (zu_rega_at (zt_T n) (zm_106 n) (zdp_106 n) _ _ _ _ _ _ (zr_106_55 n _ _ a0 a1 x2 mh)) ?_
    have r1 : 0 ≤ (mh a0 21) ∧ (mh a0 21) ≤ 64 := zi_rd hImh hc0 zb_28_21
    have r2 : 0 ≤ (mh a0 48) ∧ (mh a0 48) ≤ 64 := zi_rd hImh hc0 zb_28_48
    have r3 : 0 ≤ (mh a0 7) ∧ (mh a0 7) ≤ 700 := zi_rd hImh hc0 zb_28_7
    have s4 := hRNSmh a0 hc0
    have r5 : 0 ≤ (mh a0 8) ∧ (mh a0 8) ≤ 6 := zi_rd hImh hc0 zb_28_8
    refine zw_ite (fun h6 => ?_) (fun h6 => ?_)
    · refine zw_bd (zw_mono (zk_31 n hImh hc0 hRKNmh) (fun v8 m7 hqm7 => ?_))
      obtain ⟨hIm7, hfm7, hvm7⟩ := hqm7
      have hFm7 := zfr_tr hFmh hfm7 rfl
      obtain ⟨hRKNm7, hvm7⟩ := hvm7
      have hRNSm7 := zR_NS_fr (zdis_fr hfm7 rfl) hRNSmh
      have hRWDm7 := zR_WD_fr (zdis_fr hfm7 rfl) hRWDmh
      have s9 := hRNSm7 a0 hc0
      have r10 : (-2147483648) ≤ (m7 a0 2) ∧ (m7 a0 2) ≤ 2147483647 := zi_rd hIm7 hc0 zb_28_2
      have e11 : (m7 a0 2) = (mh a0 2) := (zfr_ap hfm7 hc0 rfl)
      exact zw_some ⟨hIm7, hFm7, hRKNm7, hRNSm7, hRWDm7, ⟨by omega, by omega⟩, ⟨by omega, by omega⟩⟩
    · refine zw_bd (zw_mono (zk_105 n hImh hc0 ⟨by omega, by omega⟩ (by omega) hRKNmh hRNSmh hRWDmh) (fun v13 m12 hqm12 => ?_))
      obtain ⟨hIm12, hfm12, hvm12⟩ := hqm12
      have hFm12 := zfr_tr hFmh hfm12 rfl
      obtain ⟨hRKNm12, hRNSm12, hRWDm12, hvm12⟩ := hvm12
      have s14 := hRNSm12 a0 hc0
      refine zw_ite (fun h15 => ?_) (fun h15 => ?_)
      · have w16 := zu_w32_rg (x2 + 1)
        have r17 : (-2147483648) ≤ (m12 a0 2) ∧ (m12 a0 2) ≤ 2147483647 := zi_rd hIm12 hc0 zb_28_2
        have e18 : (m12 a0 2) = (mh a0 2) := (zfr_ap hfm12 hc0 rfl)
        have r19 : 0 ≤ (m12 a0 1) ∧ (m12 a0 1) ≤ 700 := zi_rd hIm12 hc0 zb_28_1
        have e20 : (m12 a0 1) = (mh a0 1) := (zfr_ap hfm12 hc0 rfl)
        have r21 : 0 ≤ (m12 a0 21) ∧ (m12 a0 21) ≤ 64 := zi_rd hIm12 hc0 zb_28_21
        have r22 : 0 ≤ (m12 a0 48) ∧ (m12 a0 48) ≤ 64 := zi_rd hIm12 hc0 zb_28_48
        have r23 : 0 ≤ (m12 a0 7) ∧ (m12 a0 7) ≤ 700 := zi_rd hIm12 hc0 zb_28_7
        have hM : (700 - (m12 a0 7)) * 1 + 0 < (k : Int) := by omega
        exact ih (zu_w32 (x2 + 1)) m12 hIm12 hFm12 ⟨by omega, by omega⟩ ⟨by omega, by omega⟩ ⟨by omega, by omega⟩ ⟨by omega, by omega⟩ (by omega) hRKNm12 hRNSm12 hRWDm12 hM
      · have r24 : (-2147483648) ≤ (m12 a0 2) ∧ (m12 a0 2) ≤ 2147483647 := zi_rd hIm12 hc0 zb_28_2
        have e25 : (m12 a0 2) = (mh a0 2) := (zfr_ap hfm12 hc0 rfl)
        exact zw_some ⟨hIm12, hFm12, hRKNm12, hRNSm12, hRWDm12, ⟨by omega, by omega⟩, ⟨by omega, by omega⟩⟩
set_option maxHeartbeats 4000000 in
theorem zk_106 (n : Nat) {a0 a1 : Int} {m0 : zu_m} (hIm0 : zi_I m0) (hc0 : zcls a0 = 28) (ha1 : (-2147483648) ≤ a1 ∧ a1 ≤ 2147483647)    (hRKNm0 : zR_KN m0) (hRNSm0 : zR_NS m0) (hRWDm0 : zR_WD m0) : zw (zu_call (zt_T n) 106 [(40, a0), (0, a1)] m0) (fun v m => zi_I m ∧ zfr [(28, 2), (28, 3), (28, 5), (28, 6), (28, 7), (28, 8), (28, 9), (28, 10), (28, 11), (28, 12), (28, 13), (28, 14), (28, 15), (28, 16), (28, 17), (28, 18), (28, 19), (28, 20), (28, 21), (28, 22), (28, 23), (28, 24), (28, 43), (28, 46), (28, 47), (28, 48), (28, 49), (28, 50), (28, 51), (28, 54), (28, 63), (28, 64), (28, 65), (28, 66), (28, 67), (28, 68), (28, 69), (28, 70), (28, 78), (28, 79), (28, 82), (28, 84), (102, 0), (103, 0), (104, 0), (105, 0), (106, 0), (107, 0), (108, 0), (109, 0), (110, 0), (111, 0), (112, 0), (113, 0), (114, 0), (115, 0), (116, 0), (117, 0), (118, 0), (119, 0), (120, 0), (121, 0), (122, 0), (123, 0), (124, 0), (125, 0), (126, 0), (127, 0), (128, 0), (129, 0), (130, 0), (131, 0)] m0 m ∧ zR_KN m ∧ zR_NS m ∧ zR_WD m ∧ ((-2147483648) ≤ v ∧ v ≤ 2147483647) ∧ (0 ≤ m a0 2 ∧ m a0 2 ≤ 0)) := by
  have hFm0 : zfr [(28, 2), (28, 3), (28, 5), (28, 6), (28, 7), (28, 8), (28, 9), (28, 10), (28, 11), (28, 12), (28, 13), (28, 14), (28, 15), (28, 16), (28, 17), (28, 18), (28, 19), (28, 20), (28, 21), (28, 22), (28, 23), (28, 24), (28, 43), (28, 46), (28, 47), (28, 48), (28, 49), (28, 50), (28, 51), (28, 54), (28, 63), (28, 64), (28, 65), (28, 66), (28, 67), (28, 68), (28, 69), (28, 70), (28, 78), (28, 79), (28, 82), (28, 84), (102, 0), (103, 0), (104, 0), (105, 0), (106, 0), (107, 0), (108, 0), (109, 0), (110, 0), (111, 0), (112, 0), (113, 0), (114, 0), (115, 0), (116, 0), (117, 0), (118, 0), (119, 0), (120, 0), (121, 0), (122, 0), (123, 0), (124, 0), (125, 0), (126, 0), (127, 0), (128, 0), (129, 0), (130, 0), (131, 0)] m0 m0 := zfr_rf _ _
  have s26 := hRNSm0 a0 hc0
  refine zw_eq (zu_call_at (zt_T n) (zm_106 n) (zdp_106 n) _ _ _ _ _ rfl (zr_106_0 n _ _ a0 a1 m0)) ?_
  generalize hmm27 : zu_up m0 a0 2 0 = m27
  have hIm27 := zi_up hmm27 hIm0 hc0 zb_28_2 (by omega) (by omega)
  have hFm27 := zfr_up hmm27 hFm0 hc0 rfl
  have hRKNm27 := zR_KN_fr (zdis_fr (zfr_up hmm27 (zfr_rf [(28, 3)] _) hc0 rfl) rfl) hRKNm0
  have hRNSm27 := zR_NS_fr (zdis_fr (zfr_up hmm27 (zfr_rf [(28, 3)] _) hc0 rfl) rfl) hRNSm0
  have hRWDm27 := zR_WD_fr (zdis_fr (zfr_up hmm27 (zfr_rf [(28, 3)] _) hc0 rfl) rfl) hRWDm0
  refine zw_ite (fun h28 => ?_) (fun h28 => ?_)
  · have r29 : (-2147483648) ≤ (m27 a0 2) ∧ (m27 a0 2) ≤ 2147483647 := zi_rd hIm27 hc0 zb_28_2
    have e30 : (m27 a0 2) = 0 := (zs_eq hmm27)
    exact zw_some ⟨hIm27, hFm27, hRKNm27, hRNSm27, hRWDm27, ⟨by omega, by omega⟩, ⟨by omega, by omega⟩⟩
  · have r31 : 0 ≤ (m27 a0 1) ∧ (m27 a0 1) ≤ 700 := zi_rd hIm27 hc0 zb_28_1
    refine zw_ite (fun h32 => ?_) (fun h32 => ?_)
    · generalize hmm33 : zu_up m27 a0 6 a1 = m33
      have hIm33 := zi_up hmm33 hIm27 hc0 zb_28_6 (by omega) (by omega)
      have hFm33 := zfr_up hmm33 hFm27 hc0 rfl
      have hRKNm33 := zR_KN_fr (zdis_fr (zfr_up hmm33 (zfr_rf [(28, 7)] _) hc0 rfl) rfl) hRKNm27
      have hRWDm33 := zR_WD_fr (zdis_fr (zfr_up hmm33 (zfr_rf [(28, 7)] _) hc0 rfl) rfl) hRWDm27
      generalize hmm34 : zu_up m33 a0 1 0 = m34
      have hIm34 := zi_up hmm34 hIm33 hc0 zb_28_1 (by omega) (by omega)
      have hFm34 := zfr_up hmm34 hFm33 hc0 rfl
      have hRKNm34 := zR_KN_fr (zdis_fr (zfr_up hmm34 (zfr_rf [(28, 2)] _) hc0 rfl) rfl) hRKNm33
      have hRWDm34 := zR_WD_fr (zdis_fr (zfr_up hmm34 (zfr_rf [(28, 2)] _) hc0 rfl) rfl) hRWDm33
      generalize hmm35 : zu_up m34 a0 4 0 = m35
      have hIm35 := zi_up hmm35 hIm34 hc0 zb_28_4 (by omega) (by omega)
      have hFm35 := zfr_up hmm35 hFm34 hc0 rfl
      have hRKNm35 := zR_KN_fr (zdis_fr (zfr_up hmm35 (zfr_rf [(28, 5)] _) hc0 rfl) rfl) hRKNm34
      have hRWDm35 := zR_WD_fr (zdis_fr (zfr_up hmm35 (zfr_rf [(28, 5)] _) hc0 rfl) rfl) hRWDm34
      generalize hmm36 : zu_up m35 a0 5 (-1) = m36
      have hIm36 := zi_up hmm36 hIm35 hc0 zb_28_5 (by omega) (by omega)
      have hFm36 := zfr_up hmm36 hFm35 hc0 rfl
      have hRKNm36 := zR_KN_fr (zdis_fr (zfr_up hmm36 (zfr_rf [(28, 6)] _) hc0 rfl) rfl) hRKNm35
      have hRWDm36 := zR_WD_fr (zdis_fr (zfr_up hmm36 (zfr_rf [(28, 6)] _) hc0 rfl) rfl) hRWDm35
      generalize hmm37 : zu_up m36 a0 7 0 = m37
      have hIm37 := zi_up hmm37 hIm36 hc0 zb_28_7 (by omega) (by omega)
      have hFm37 := zfr_up hmm37 hFm36 hc0 rfl
      have hRKNm37 := zR_KN_fr (zdis_fr (zfr_up hmm37 (zfr_rf [(28, 8)] _) hc0 rfl) rfl) hRKNm36
      have hRWDm37 := zR_WD_fr (zdis_fr (zfr_up hmm37 (zfr_rf [(28, 8)] _) hc0 rfl) rfl) hRWDm36
      have r38 : 0 ≤ (m37 a0 7) ∧ (m37 a0 7) ≤ 700 := zi_rd hIm37 hc0 zb_28_7
      have e39 : (m37 a0 7) = 0 := (zs_eq hmm37)
      have r40 : 0 ≤ (m37 a0 6) ∧ (m37 a0 6) ≤ 700 := zi_rd hIm37 hc0 zb_28_6
      have e41 : (m37 a0 6) = a1 := (Eq.trans (zs_ne hmm37 (Or.inr (by decide))) (Eq.trans (zs_ne hmm36 (Or.inr (by decide))) (Eq.trans (zs_ne hmm35 (Or.inr (by decide))) (Eq.trans (zs_ne hmm34 (Or.inr (by decide))) (zs_eq hmm33)))))
      have hRNSm37 := zR_NS_of hc0 (show m37 a0 7 ≤ m37 a0 6 by omega)
      refine zw_bd (zw_mono (zk_30 n hIm37 hc0) (fun v43 m42 hqm42 => ?_))
      obtain ⟨hIm42, hfm42, hvm42⟩ := hqm42
      have hFm42 := zfr_tr hFm37 hfm42 rfl
      have hRKNm42 := zR_KN_fr (zdis_fr hfm42 rfl) hRKNm37
      have hRNSm42 := zR_NS_fr (zdis_fr hfm42 rfl) hRNSm37
      have hRWDm42 := zR_WD_fr (zdis_fr hfm42 rfl) hRWDm37
      have s44 := hRNSm42 a0 hc0
      refine zw_bd (zw_mono (zk_89 n hIm42 hc0 hRNSm42 hRWDm42) (fun v46 m45 hqm45 => ?_))
      obtain ⟨hIm45, hfm45, hvm45⟩ := hqm45
      have hFm45 := zfr_tr hFm42 hfm45 rfl
      obtain ⟨hRNSm45, hRTRm45, hRWDm45, hvm45⟩ := hvm45
      have hRKNm45 := zR_KN_fr (zdis_fr hfm45 rfl) hRKNm42
      have s47 := hRNSm45 a0 hc0
      have s48 := hRTRm45 a0 hc0
      have r49 : (-2147483648) ≤ (m45 a0 2) ∧ (m45 a0 2) ≤ 2147483647 := zi_rd hIm45 hc0 zb_28_2
      have e50 : (m45 a0 2) = 0 := (Eq.trans (zfr_ap hfm45 hc0 rfl) (Eq.trans (zfr_ap hfm42 hc0 rfl) (Eq.trans (zs_ne hmm37 (Or.inr (by decide))) (Eq.trans (zs_ne hmm36 (Or.inr (by decide))) (Eq.trans (zs_ne hmm35 (Or.inr (by decide))) (Eq.trans (zs_ne hmm34 (Or.inr (by decide))) (Eq.trans (zs_ne hmm33 (Or.inr (by decide))) (zs_eq hmm27))))))))
      have r51 : 0 ≤ (m45 a0 1) ∧ (m45 a0 1) ≤ 700 := zi_rd hIm45 hc0 zb_28_1
      have e52 : (m45 a0 1) = 0 := (Eq.trans (zfr_ap hfm45 hc0 rfl) (Eq.trans (zfr_ap hfm42 hc0 rfl) (Eq.trans (zs_ne hmm37 (Or.inr (by decide))) (Eq.trans (zs_ne hmm36 (Or.inr (by decide))) (Eq.trans (zs_ne hmm35 (Or.inr (by decide))) (zs_eq hmm34))))))
      have r53 : 0 ≤ (m45 a0 21) ∧ (m45 a0 21) ≤ 64 := zi_rd hIm45 hc0 zb_28_21
      have e54 : (m45 a0 21) = (m42 a0 21) := (zfr_ap hfm45 hc0 rfl)
      have r55 : 0 ≤ (m45 a0 48) ∧ (m45 a0 48) ≤ 64 := zi_rd hIm45 hc0 zb_28_48
      have e56 : (m45 a0 48) = (m42 a0 48) := (zfr_ap hfm45 hc0 rfl)
      have r57 : 0 ≤ (m45 a0 7) ∧ (m45 a0 7) ≤ 700 := zi_rd hIm45 hc0 zb_28_7
      have hM : (700 - (m45 a0 7)) * 1 + 0 < ((701 : Nat) : Int) := by omega
      exact (zl_106 n (m0 := m0) hc0 701) 0 m45 hIm45 hFm45 ⟨by omega, by omega⟩ ⟨by omega, by omega⟩ ⟨by omega, by omega⟩ ⟨by omega, by omega⟩ (by omega) hRKNm45 hRNSm45 hRWDm45 hM
    · have r58 : (-2147483648) ≤ (m27 a0 2) ∧ (m27 a0 2) ≤ 2147483647 := zi_rd hIm27 hc0 zb_28_2
      have e59 : (m27 a0 2) = 0 := (zs_eq hmm27)
      exact zw_some ⟨hIm27, hFm27, hRKNm27, hRNSm27, hRWDm27, ⟨by omega, by omega⟩, ⟨by omega, by omega⟩⟩
set_option maxHeartbeats 4000000 in
theorem zl_140 (n : Nat) {a0 a1 : Int} {m0 : zu_m} (hc0 : zcls a0 = 28)   : ∀ k : Nat, (∀ (x2 x3 : Int) (mh : zu_m), zi_I mh → zfr [(28, 54), (28, 64), (122, 0), (123, 0), (124, 0), (126, 0), (128, 0), (129, 0), (130, 0), (131, 0)] m0 mh → (0 ≤ a1 ∧ a1 ≤ 1) → ((-2147483648) ≤ x2 ∧ x2 ≤ 2147483647) → (0 ≤ x3 ∧ x3 ≤ 4) → (zR_KN mh) → (4 - x3) * 1 + 43 < (k : Int) → zw (zu_ex (zt_T n) 140 9 [(40, a0), (0, a1), (0, x2), (0, x3), (2, 0)] [] mh) (fun v m => zi_I m ∧ zfr [(28, 54), (28, 64), (122, 0), (123, 0), (124, 0), (126, 0), (128, 0), (129, 0), (130, 0), (131, 0)] m0 m ∧ zR_KN m ∧ True)) ∧ (∀ (x2 x3 : Int) (mh : zu_m), zi_I mh → zfr [(28, 54), (28, 64), (122, 0), (123, 0), (124, 0), (126, 0), (128, 0), (129, 0), (130, 0), (131, 0)] m0 mh → (0 ≤ a1 ∧ a1 ≤ 1) → ((-2147483648) ≤ x2 ∧ x2 ≤ 2147483647) → (0 ≤ x3 ∧ x3 ≤ 4) → (zR_KN mh) → (4 - x3) * 1 + 38 < (k : Int) → zw (zu_ex (zt_T n) 140 53 [(40, a0), (0, a1), (0, x2), (0, x3), (2, 0)] [] mh) (fun v m => zi_I m ∧ zfr [(28, 54), (28, 64), (122, 0), (123, 0), (124, 0), (126, 0), (128, 0), (129, 0), (130, 0), (131, 0)] m0 m ∧ zR_KN m ∧ True)) ∧ (∀ (x2 x3 x4 : Int) (mh : zu_m), zi_I mh → zfr [(28, 54), (28, 64), (122, 0), (123, 0), (124, 0), (126, 0), (128, 0), (129, 0), (130, 0), (131, 0)] m0 mh → (0 ≤ a1 ∧ a1 ≤ 1) → (1 ≤ x2 ∧ x2 ≤ 2147483647) → ((-99) ≤ x3 ∧ x3 ≤ 99) → (0 ≤ x4 ∧ x4 ≤ 18) → (0 ≤ mh a0 65 ∧ mh a0 65 ≤ 0) → (zR_KN mh) → (18 - x4) * 1 + 19 < (k : Int) → zw (zu_ex (zt_T n) 140 138 [(40, a0), (0, a1), (0, x2), (0, x3), (0, x4)] [] mh) (fun v m => zi_I m ∧ zfr [(28, 54), (28, 64), (122, 0), (123, 0), (124, 0), (126, 0), (128, 0), (129, 0), (130, 0), (131, 0)] m0 m ∧ zR_KN m ∧ True)) ∧ (∀ (x2 x3 : Int) (mh : zu_m), zi_I mh → zfr [(28, 54), (28, 64), (122, 0), (123, 0), (124, 0), (126, 0), (128, 0), (129, 0), (130, 0), (131, 0)] m0 mh → (0 ≤ a1 ∧ a1 ≤ 1) → ((-1) ≤ x2 ∧ x2 ≤ 99999) → (0 ≤ x3 ∧ x3 ≤ 18) → (0 ≤ mh a0 66 ∧ mh a0 66 ≤ 0) → (zR_KN mh) → (18 - x3) * 1 + 0 < (k : Int) → zw (zu_ex (zt_T n) 140 226 [(40, a0), (0, a1), (0, x2), (0, x3), (2, 0)] [] mh) (fun v m => zi_I m ∧ zfr [(28, 54), (28, 64), (122, 0), (123, 0), (124, 0), (126, 0), (128, 0), (129, 0), (130, 0), (131, 0)] m0 m ∧ zR_KN m ∧ True)) := by
  intro k
  induction k with
  | zero => exact ⟨fun x2 x3 mh hImh hFmh hba1 hbx2 hbx3 hRKNmh hM => by exfalso; omega, fun x2 x3 mh hImh hFmh hba1 hbx2 hbx3 hRKNmh hM => by exfalso; omega, fun x2 x3 x4 mh hImh hFmh hba1 hbx2 hbx3 hbx4 hg4 hRKNmh hM => by exfalso; omega, fun x2 x3 mh hImh hFmh hba1 hbx2 hbx3 hg3 hRKNmh hM => by exfalso; omega⟩
  | succ k ih =>
    refine ⟨?_, ?_, ?_, ?_⟩
    · intro x2 x3 mh hImh hFmh hba1 hbx2 hbx3 hRKNmh hM
      refine zw_eq (zu_rega_at (zt_T n) (zm_140 n) (zdp_140 n) _ _ _ _ _ _ (zr_140_9 n _ _ a0 a1 x2 x3 mh)) ?_
      have r1 : 0 ≤ (mh a0 15) ∧ (mh a0 15) ≤ 4 := zi_rd hImh hc0 zb_28_15
      refine zw_ite (fun h2 => ?_) (fun h2 => ?_)
      · have hM : (4 - 0) * 1 + 38 < (k : Int) := by omega
        exact ih.2.1 x2 0 mh hImh hFmh ⟨by omega, by omega⟩ ⟨by omega, by omega⟩ ⟨by omega, by omega⟩ hRKNmh hM
      · have w3 := zu_w32_id (z := 4 * a1) (by omega) (by omega)
        have w4 := zu_w32_id (z := (zu_w32 (4 * a1)) + x3) (by omega) (by omega)
        have b5 : 0 ≤ (zu_w32 ((zu_w32 (4 * a1)) + x3)) ∧ (zu_w32 ((zu_w32 (4 * a1)) + x3)) < 8 := by omega
        refine zw_if b5 ?_
        have r6 : (-2147483648) ≤ (mh 218 (zu_w32 ((zu_w32 (4 * a1)) + x3))) ∧ (mh 218 (zu_w32 ((zu_w32 (4 * a1)) + x3))) ≤ 2147483647 := zi_rd hImh zq_218 (zb_127 _)
        refine zw_ite (fun h7 => ?_) (fun h7 => ?_)
        · have w8 := zu_w32_id (z := x3 + 1) (by omega) (by omega)
          have hM : (4 - (zu_w32 (x3 + 1))) * 1 + 43 < (k : Int) := by omega
          exact ih.1 x2 (zu_w32 (x3 + 1)) mh hImh hFmh ⟨by omega, by omega⟩ ⟨by omega, by omega⟩ ⟨by omega, by omega⟩ hRKNmh hM
        · have r9 : (-2147483648) ≤ (mh a0 69) ∧ (mh a0 69) ≤ 2147483647 := zi_rd hImh hc0 zb_28_69
          refine zw_ite (fun h10 => ?_) (fun h10 => ?_)
          · have w11 := zu_w32_id (z := x3 + 1) (by omega) (by omega)
            have hM : (4 - (zu_w32 (x3 + 1))) * 1 + 43 < (k : Int) := by omega
            exact ih.1 x2 (zu_w32 (x3 + 1)) mh hImh hFmh ⟨by omega, by omega⟩ ⟨by omega, by omega⟩ ⟨by omega, by omega⟩ hRKNmh hM
          · refine zw_bd (zw_mono (zk_137 n hImh hc0 ⟨by omega, by omega⟩ ⟨by omega, by omega⟩ hRKNmh) (fun v13 m12 hqm12 => ?_))
            obtain ⟨hIm12, hfm12, hvm12⟩ := hqm12
            have hFm12 := zfr_tr hFmh hfm12 rfl
            obtain ⟨hRKNm12, hvm12⟩ := hvm12
            have w14 := zu_w32_id (z := x3 + 1) (by omega) (by omega)
            have hM : (4 - (zu_w32 (x3 + 1))) * 1 + 43 < (k : Int) := by omega
            exact ih.1 x2 (zu_w32 (x3 + 1)) m12 hIm12 hFm12 ⟨by omega, by omega⟩ ⟨by omega, by omega⟩ ⟨by omega, by omega⟩ hRKNm12 hM
    · intro x2 x3 mh hImh hFmh hba1 hbx2 hbx3 hRKNmh hM
      refine zw_eq (zu_rega_at (zt_T n) (zm_140 n) (zdp_140 n) _ _ _ _ _ _ (zr_140_53 n _ _ a0 a1 x2 x3 mh)) ?_
      have r15 : 0 ≤ (mh a0 15) ∧ (mh a0 15) ≤ 4 := zi_rd hImh hc0 zb_28_15
      refine zw_ite (fun h16 => ?_) (fun h16 => ?_)
      · have r17 : 0 ≤ (mh a0 65) ∧ (mh a0 65) ≤ 1 := zi_rd hImh hc0 zb_28_65
        refine zw_ite (fun h18 => ?_) (fun h18 => ?_)
        · have b19 : 0 ≤ (3 : Int) ∧ (3 : Int) < 10 := by omega
          refine zw_if b19 ?_
          have r20 : (-1) ≤ (mh 194 3) ∧ (mh 194 3) ≤ 99999 := zi_rd hImh zq_194 (zb_103 _)
          refine zw_ite (fun h21 => ?_) (fun h21 => ?_)
          · have b22 : 0 ≤ a1 ∧ a1 < 2 := by omega
            refine zw_if b22 ?_
            have r23 : (-2147483648) ≤ (mh 221 a1) ∧ (mh 221 a1) ≤ 2147483647 := zi_rd hImh zq_221 (zb_130 _)
            have w24 := zu_w32_rg ((mh 221 a1) + 1)
            have b25 : 0 ≤ a1 ∧ a1 < 2 := by omega
            refine zw_if b25 ?_
            generalize hmm26 : zu_up mh 221 a1 (zu_w32 ((mh 221 a1) + 1)) = m26
            have hIm26 := zi_up hmm26 hImh zq_221 (zb_130 _) (by omega) (by omega)
            have hFm26 := zfr_up hmm26 hFmh zq_221 rfl
            have hRKNm26 := zR_KN_fr (zdis_fr (zfr_up hmm26 (zfr_rf [(130, 0)] _) zq_221 rfl) rfl) hRKNmh
            exact zw_some ⟨hIm26, hFm26, hRKNm26, trivial⟩
          · have r27 : 0 ≤ (mh a0 66) ∧ (mh a0 66) ≤ 1 := zi_rd hImh hc0 zb_28_66
            refine zw_ite (fun h28 => ?_) (fun h28 => ?_)
            · have b29 : 0 ≤ a1 ∧ a1 < 2 := by omega
              refine zw_if b29 ?_
              have r30 : (-2147483648) ≤ (mh 221 a1) ∧ (mh 221 a1) ≤ 2147483647 := zi_rd hImh zq_221 (zb_130 _)
              have w31 := zu_w32_rg ((mh 221 a1) + 1)
              have b32 : 0 ≤ a1 ∧ a1 < 2 := by omega
              refine zw_if b32 ?_
              generalize hmm33 : zu_up mh 221 a1 (zu_w32 ((mh 221 a1) + 1)) = m33
              have hIm33 := zi_up hmm33 hImh zq_221 (zb_130 _) (by omega) (by omega)
              have hFm33 := zfr_up hmm33 hFmh zq_221 rfl
              have hRKNm33 := zR_KN_fr (zdis_fr (zfr_up hmm33 (zfr_rf [(130, 0)] _) zq_221 rfl) rfl) hRKNmh
              exact zw_some ⟨hIm33, hFm33, hRKNm33, trivial⟩
            · have hM : (18 - 0) * 1 + 0 < (k : Int) := by omega
              exact ih.2.2.2 x2 0 mh hImh hFmh ⟨by omega, by omega⟩ ⟨by omega, by omega⟩ ⟨by omega, by omega⟩ ⟨by omega, by omega⟩ hRKNmh hM
        · have b34 : 0 ≤ (2 : Int) ∧ (2 : Int) < 10 := by omega
          refine zw_if b34 ?_
          have r35 : (-1) ≤ (mh 194 2) ∧ (mh 194 2) ≤ 99999 := zi_rd hImh zq_194 (zb_103 _)
          refine zw_ite (fun h36 => ?_) (fun h36 => ?_)
          · have b37 : 0 ≤ (3 : Int) ∧ (3 : Int) < 10 := by omega
            refine zw_if b37 ?_
            have r38 : (-1) ≤ (mh 194 3) ∧ (mh 194 3) ≤ 99999 := zi_rd hImh zq_194 (zb_103 _)
            refine zw_ite (fun h39 => ?_) (fun h39 => ?_)
            · have b40 : 0 ≤ a1 ∧ a1 < 2 := by omega
              refine zw_if b40 ?_
              have r41 : (-2147483648) ≤ (mh 221 a1) ∧ (mh 221 a1) ≤ 2147483647 := zi_rd hImh zq_221 (zb_130 _)
              have w42 := zu_w32_rg ((mh 221 a1) + 1)
              have b43 : 0 ≤ a1 ∧ a1 < 2 := by omega
              refine zw_if b43 ?_
              generalize hmm44 : zu_up mh 221 a1 (zu_w32 ((mh 221 a1) + 1)) = m44
              have hIm44 := zi_up hmm44 hImh zq_221 (zb_130 _) (by omega) (by omega)
              have hFm44 := zfr_up hmm44 hFmh zq_221 rfl
              have hRKNm44 := zR_KN_fr (zdis_fr (zfr_up hmm44 (zfr_rf [(130, 0)] _) zq_221 rfl) rfl) hRKNmh
              exact zw_some ⟨hIm44, hFm44, hRKNm44, trivial⟩
            · have r45 : 0 ≤ (mh a0 66) ∧ (mh a0 66) ≤ 1 := zi_rd hImh hc0 zb_28_66
              refine zw_ite (fun h46 => ?_) (fun h46 => ?_)
              · have b47 : 0 ≤ a1 ∧ a1 < 2 := by omega
                refine zw_if b47 ?_
                have r48 : (-2147483648) ≤ (mh 221 a1) ∧ (mh 221 a1) ≤ 2147483647 := zi_rd hImh zq_221 (zb_130 _)
                have w49 := zu_w32_rg ((mh 221 a1) + 1)
                have b50 : 0 ≤ a1 ∧ a1 < 2 := by omega
                refine zw_if b50 ?_
                generalize hmm51 : zu_up mh 221 a1 (zu_w32 ((mh 221 a1) + 1)) = m51
                have hIm51 := zi_up hmm51 hImh zq_221 (zb_130 _) (by omega) (by omega)
                have hFm51 := zfr_up hmm51 hFmh zq_221 rfl
                have hRKNm51 := zR_KN_fr (zdis_fr (zfr_up hmm51 (zfr_rf [(130, 0)] _) zq_221 rfl) rfl) hRKNmh
                exact zw_some ⟨hIm51, hFm51, hRKNm51, trivial⟩
              · have hM : (18 - 0) * 1 + 0 < (k : Int) := by omega
                exact ih.2.2.2 x2 0 mh hImh hFmh ⟨by omega, by omega⟩ ⟨by omega, by omega⟩ ⟨by omega, by omega⟩ ⟨by omega, by omega⟩ hRKNmh hM
          · refine zw_ite (fun h52 => ?_) (fun h52 => ?_)
            · have b53 : 0 ≤ (3 : Int) ∧ (3 : Int) < 10 := by omega
              refine zw_if b53 ?_
              have r54 : (-1) ≤ (mh 194 3) ∧ (mh 194 3) ≤ 99999 := zi_rd hImh zq_194 (zb_103 _)
              refine zw_ite (fun h55 => ?_) (fun h55 => ?_)
              · have b56 : 0 ≤ a1 ∧ a1 < 2 := by omega
                refine zw_if b56 ?_
                have r57 : (-2147483648) ≤ (mh 221 a1) ∧ (mh 221 a1) ≤ 2147483647 := zi_rd hImh zq_221 (zb_130 _)
                have w58 := zu_w32_rg ((mh 221 a1) + 1)
                have b59 : 0 ≤ a1 ∧ a1 < 2 := by omega
                refine zw_if b59 ?_
                generalize hmm60 : zu_up mh 221 a1 (zu_w32 ((mh 221 a1) + 1)) = m60
                have hIm60 := zi_up hmm60 hImh zq_221 (zb_130 _) (by omega) (by omega)
                have hFm60 := zfr_up hmm60 hFmh zq_221 rfl
                have hRKNm60 := zR_KN_fr (zdis_fr (zfr_up hmm60 (zfr_rf [(130, 0)] _) zq_221 rfl) rfl) hRKNmh
                exact zw_some ⟨hIm60, hFm60, hRKNm60, trivial⟩
              · have r61 : 0 ≤ (mh a0 66) ∧ (mh a0 66) ≤ 1 := zi_rd hImh hc0 zb_28_66
                refine zw_ite (fun h62 => ?_) (fun h62 => ?_)
                · have b63 : 0 ≤ a1 ∧ a1 < 2 := by omega
                  refine zw_if b63 ?_
                  have r64 : (-2147483648) ≤ (mh 221 a1) ∧ (mh 221 a1) ≤ 2147483647 := zi_rd hImh zq_221 (zb_130 _)
                  have w65 := zu_w32_rg ((mh 221 a1) + 1)
                  have b66 : 0 ≤ a1 ∧ a1 < 2 := by omega
                  refine zw_if b66 ?_
                  generalize hmm67 : zu_up mh 221 a1 (zu_w32 ((mh 221 a1) + 1)) = m67
                  have hIm67 := zi_up hmm67 hImh zq_221 (zb_130 _) (by omega) (by omega)
                  have hFm67 := zfr_up hmm67 hFmh zq_221 rfl
                  have hRKNm67 := zR_KN_fr (zdis_fr (zfr_up hmm67 (zfr_rf [(130, 0)] _) zq_221 rfl) rfl) hRKNmh
                  exact zw_some ⟨hIm67, hFm67, hRKNm67, trivial⟩
                · have hM : (18 - 0) * 1 + 0 < (k : Int) := by omega
                  exact ih.2.2.2 x2 0 mh hImh hFmh ⟨by omega, by omega⟩ ⟨by omega, by omega⟩ ⟨by omega, by omega⟩ ⟨by omega, by omega⟩ hRKNmh hM
            · have b68 : 0 ≤ (2 : Int) ∧ (2 : Int) < 10 := by omega
              refine zw_if b68 ?_
              refine zw_nif (by omega) ?_
              have d69 := ztmod_bd (x := x2) (y := (mh 194 2)) (by omega) (by omega)
              refine zw_ite (fun h70 => ?_) (fun h70 => ?_)
              · have b71 : 0 ≤ (3 : Int) ∧ (3 : Int) < 10 := by omega
                refine zw_if b71 ?_
                have r72 : (-1) ≤ (mh 194 3) ∧ (mh 194 3) ≤ 99999 := zi_rd hImh zq_194 (zb_103 _)
                refine zw_ite (fun h73 => ?_) (fun h73 => ?_)
                · have b74 : 0 ≤ a1 ∧ a1 < 2 := by omega
                  refine zw_if b74 ?_
                  have r75 : (-2147483648) ≤ (mh 221 a1) ∧ (mh 221 a1) ≤ 2147483647 := zi_rd hImh zq_221 (zb_130 _)
                  have w76 := zu_w32_rg ((mh 221 a1) + 1)
                  have b77 : 0 ≤ a1 ∧ a1 < 2 := by omega
                  refine zw_if b77 ?_
                  generalize hmm78 : zu_up mh 221 a1 (zu_w32 ((mh 221 a1) + 1)) = m78
                  have hIm78 := zi_up hmm78 hImh zq_221 (zb_130 _) (by omega) (by omega)
                  have hFm78 := zfr_up hmm78 hFmh zq_221 rfl
                  have hRKNm78 := zR_KN_fr (zdis_fr (zfr_up hmm78 (zfr_rf [(130, 0)] _) zq_221 rfl) rfl) hRKNmh
                  exact zw_some ⟨hIm78, hFm78, hRKNm78, trivial⟩
                · have r79 : 0 ≤ (mh a0 66) ∧ (mh a0 66) ≤ 1 := zi_rd hImh hc0 zb_28_66
                  refine zw_ite (fun h80 => ?_) (fun h80 => ?_)
                  · have b81 : 0 ≤ a1 ∧ a1 < 2 := by omega
                    refine zw_if b81 ?_
                    have r82 : (-2147483648) ≤ (mh 221 a1) ∧ (mh 221 a1) ≤ 2147483647 := zi_rd hImh zq_221 (zb_130 _)
                    have w83 := zu_w32_rg ((mh 221 a1) + 1)
                    have b84 : 0 ≤ a1 ∧ a1 < 2 := by omega
                    refine zw_if b84 ?_
                    generalize hmm85 : zu_up mh 221 a1 (zu_w32 ((mh 221 a1) + 1)) = m85
                    have hIm85 := zi_up hmm85 hImh zq_221 (zb_130 _) (by omega) (by omega)
                    have hFm85 := zfr_up hmm85 hFmh zq_221 rfl
                    have hRKNm85 := zR_KN_fr (zdis_fr (zfr_up hmm85 (zfr_rf [(130, 0)] _) zq_221 rfl) rfl) hRKNmh
                    exact zw_some ⟨hIm85, hFm85, hRKNm85, trivial⟩
                  · have hM : (18 - 0) * 1 + 0 < (k : Int) := by omega
                    exact ih.2.2.2 x2 0 mh hImh hFmh ⟨by omega, by omega⟩ ⟨by omega, by omega⟩ ⟨by omega, by omega⟩ ⟨by omega, by omega⟩ hRKNmh hM
              · refine zw_bd (zw_eq (zu_call_at (zt_T n) (zm_36 n) (zdp_36 n) _ _ _ _ _ rfl (zr_36_0 n _ _ a0 mh)) ?_)
                have r86 : 1 ≤ (mh a0 12) ∧ (mh a0 12) ≤ 8 := zi_rd hImh hc0 zb_28_12
                have r87 : 1 ≤ (mh a0 13) ∧ (mh a0 13) ≤ 6 := zi_rd hImh hc0 zb_28_13
                have p88 := zmul_bd (x := (mh a0 12)) (y := (mh a0 13)) (a := 1) (b := 1) (A := 8) (B := 6) (by omega) (by omega) (by omega) (by omega) (by omega) (by omega)
                have w89 := zu_w32_id (z := (mh a0 12) * (mh a0 13)) (by omega) (by omega)
                refine zw_some ?_
                refine zw_bd (zw_mono (zk_136 n hImh hc0 ⟨by omega, by omega⟩) (fun v91 m90 hqm90 => ?_))
                obtain ⟨hIm90, hfm90, hvm90⟩ := hqm90
                have hFm90 := zfr_tr hFmh hfm90 rfl
                have hRKNm90 := zR_KN_fr (zdis_fr hfm90 rfl) hRKNmh
                have r92 : 0 ≤ (m90 a0 65) ∧ (m90 a0 65) ≤ 1 := zi_rd hIm90 hc0 zb_28_65
                have e93 : (m90 a0 65) = (mh a0 65) := (zfr_ap hfm90 hc0 rfl)
                have hM : (18 - 0) * 1 + 19 < (k : Int) := by omega
                exact ih.2.2.1 x2 v91 0 m90 hIm90 hFm90 ⟨by omega, by omega⟩ ⟨by omega, by omega⟩ ⟨by omega, by omega⟩ ⟨by omega, by omega⟩ ⟨by omega, by omega⟩ hRKNm90 hM
      · have w94 := zu_w32_id (z := 4 * a1) (by omega) (by omega)
        have w95 := zu_w32_id (z := (zu_w32 (4 * a1)) + x3) (by omega) (by omega)
        have b96 : 0 ≤ (zu_w32 ((zu_w32 (4 * a1)) + x3)) ∧ (zu_w32 ((zu_w32 (4 * a1)) + x3)) < 8 := by omega
        refine zw_if b96 ?_
        have r97 : (-2147483648) ≤ (mh 218 (zu_w32 ((zu_w32 (4 * a1)) + x3))) ∧ (mh 218 (zu_w32 ((zu_w32 (4 * a1)) + x3))) ≤ 2147483647 := zi_rd hImh zq_218 (zb_127 _)
        refine zw_ite (fun h98 => ?_) (fun h98 => ?_)
        · have w99 := zu_w32_id (z := x3 + 1) (by omega) (by omega)
          have hM : (4 - (zu_w32 (x3 + 1))) * 1 + 38 < (k : Int) := by omega
          exact ih.2.1 x2 (zu_w32 (x3 + 1)) mh hImh hFmh ⟨by omega, by omega⟩ ⟨by omega, by omega⟩ ⟨by omega, by omega⟩ hRKNmh hM
        · have r100 : (-2147483648) ≤ (mh a0 69) ∧ (mh a0 69) ≤ 2147483647 := zi_rd hImh hc0 zb_28_69
          refine zw_ite (fun h101 => ?_) (fun h101 => ?_)
          · have w102 := zu_w32_id (z := x3 + 1) (by omega) (by omega)
            have hM : (4 - (zu_w32 (x3 + 1))) * 1 + 38 < (k : Int) := by omega
            exact ih.2.1 x2 (zu_w32 (x3 + 1)) mh hImh hFmh ⟨by omega, by omega⟩ ⟨by omega, by omega⟩ ⟨by omega, by omega⟩ hRKNmh hM
          · refine zw_bd (zw_mono (zk_139 n hImh hc0 ⟨by omega, by omega⟩ ⟨by omega, by omega⟩) (fun v104 m103 hqm103 => ?_))
            obtain ⟨hIm103, hfm103, hvm103⟩ := hqm103
            have hFm103 := zfr_tr hFmh hfm103 rfl
            have hRKNm103 := zR_KN_fr (zdis_fr hfm103 rfl) hRKNmh
            have w105 := zu_w32_id (z := x3 + 1) (by omega) (by omega)
            have hM : (4 - (zu_w32 (x3 + 1))) * 1 + 38 < (k : Int) := by omega
            exact ih.2.1 x2 (zu_w32 (x3 + 1)) m103 hIm103 hFm103 ⟨by omega, by omega⟩ ⟨by omega, by omega⟩ ⟨by omega, by omega⟩ hRKNm103 hM
    · intro x2 x3 x4 mh hImh hFmh hba1 hbx2 hbx3 hbx4 hg4 hRKNmh hM
      refine zw_eq (zu_rega_at (zt_T n) (zm_140 n) (zdp_140 n) _ _ _ _ _ _ (zr_140_138 n _ _ a0 a1 x2 x3 x4 mh)) ?_
      have b106 : 0 ≤ a1 ∧ a1 < 2 := by omega
      refine zw_if b106 ?_
      have r107 : 0 ≤ (mh 216 a1) ∧ (mh 216 a1) ≤ 18 := zi_rdr (m := 2) (r0 := 0) (r1 := 1) hImh zq_216 (by omega) (by decide +kernel)
      refine zw_ite (fun h108 => ?_) (fun h108 => ?_)
      · have b109 : 0 ≤ a1 ∧ a1 < 2 := by omega
        refine zw_if b109 ?_
        refine zw_ite (fun h110 => ?_) (fun h110 => ?_)
        · have b111 : 0 ≤ (3 : Int) ∧ (3 : Int) < 10 := by omega
          refine zw_if b111 ?_
          have r112 : (-1) ≤ (mh 194 3) ∧ (mh 194 3) ≤ 99999 := zi_rd hImh zq_194 (zb_103 _)
          refine zw_ite (fun h113 => ?_) (fun h113 => ?_)
          · have b114 : 0 ≤ a1 ∧ a1 < 2 := by omega
            refine zw_if b114 ?_
            have r115 : (-2147483648) ≤ (mh 221 a1) ∧ (mh 221 a1) ≤ 2147483647 := zi_rd hImh zq_221 (zb_130 _)
            have w116 := zu_w32_rg ((mh 221 a1) + 1)
            have b117 : 0 ≤ a1 ∧ a1 < 2 := by omega
            refine zw_if b117 ?_
            generalize hmm118 : zu_up mh 221 a1 (zu_w32 ((mh 221 a1) + 1)) = m118
            have hIm118 := zi_up hmm118 hImh zq_221 (zb_130 _) (by omega) (by omega)
            have hFm118 := zfr_up hmm118 hFmh zq_221 rfl
            have hRKNm118 := zR_KN_fr (zdis_fr (zfr_up hmm118 (zfr_rf [(130, 0)] _) zq_221 rfl) rfl) hRKNmh
            exact zw_some ⟨hIm118, hFm118, hRKNm118, trivial⟩
          · have r119 : 0 ≤ (mh a0 66) ∧ (mh a0 66) ≤ 1 := zi_rd hImh hc0 zb_28_66
            refine zw_ite (fun h120 => ?_) (fun h120 => ?_)
            · have b121 : 0 ≤ a1 ∧ a1 < 2 := by omega
              refine zw_if b121 ?_
              have r122 : (-2147483648) ≤ (mh 221 a1) ∧ (mh 221 a1) ≤ 2147483647 := zi_rd hImh zq_221 (zb_130 _)
              have w123 := zu_w32_rg ((mh 221 a1) + 1)
              have b124 : 0 ≤ a1 ∧ a1 < 2 := by omega
              refine zw_if b124 ?_
              generalize hmm125 : zu_up mh 221 a1 (zu_w32 ((mh 221 a1) + 1)) = m125
              have hIm125 := zi_up hmm125 hImh zq_221 (zb_130 _) (by omega) (by omega)
              have hFm125 := zfr_up hmm125 hFmh zq_221 rfl
              have hRKNm125 := zR_KN_fr (zdis_fr (zfr_up hmm125 (zfr_rf [(130, 0)] _) zq_221 rfl) rfl) hRKNmh
              exact zw_some ⟨hIm125, hFm125, hRKNm125, trivial⟩
            · have hM : (18 - 0) * 1 + 0 < (k : Int) := by omega
              exact zw_le (zu_forget (zu_lr_same (zu_lr_same (zu_lr_same (zu_lr_same (zu_lr_drop zu_lr_nil)))))) (ih.2.2.2 x2 0 mh hImh hFmh ⟨by omega, by omega⟩ ⟨by omega, by omega⟩ ⟨by omega, by omega⟩ ⟨by omega, by omega⟩ hRKNmh hM)
        · exfalso; omega
      · have w126 := zu_w32_id (z := 18 * a1) (by omega) (by omega)
        have w127 := zu_w32_id (z := (zu_w32 (18 * a1)) + x4) (by omega) (by omega)
        have b128 : 0 ≤ (zu_w32 ((zu_w32 (18 * a1)) + x4)) ∧ (zu_w32 ((zu_w32 (18 * a1)) + x4)) < 36 := by omega
        refine zw_if b128 ?_
        have r129 : (-3) ≤ (mh 215 (zu_w32 ((zu_w32 (18 * a1)) + x4))) ∧ (mh 215 (zu_w32 ((zu_w32 (18 * a1)) + x4))) ≤ 3 := zi_rd hImh zq_215 (zb_124 _)
        refine zw_ite (fun h130 => ?_) (fun h130 => ?_)
        · have w131 := zu_w32_id (z := x4 + 1) (by omega) (by omega)
          have hM : (18 - (zu_w32 (x4 + 1))) * 1 + 19 < (k : Int) := by omega
          exact ih.2.2.1 x2 x3 (zu_w32 (x4 + 1)) mh hImh hFmh ⟨by omega, by omega⟩ ⟨by omega, by omega⟩ ⟨by omega, by omega⟩ ⟨by omega, by omega⟩ ⟨by omega, by omega⟩ hRKNmh hM
        · have b132 : 0 ≤ x4 ∧ x4 < 36 := by omega
          refine zw_if b132 ?_
          have r133 : 0 ≤ (mh 197 x4) ∧ (mh 197 x4) ≤ 47 := zi_rd hImh zq_197 (zb_106 _)
          refine zw_ite (fun h134 => ?_) (fun h134 => ?_)
          · have b135 : 0 ≤ a1 ∧ a1 < 2 := by omega
            refine zw_if b135 ?_
            refine zw_ite (fun h136 => ?_) (fun h136 => ?_)
            · have b137 : 0 ≤ (3 : Int) ∧ (3 : Int) < 10 := by omega
              refine zw_if b137 ?_
              have r138 : (-1) ≤ (mh 194 3) ∧ (mh 194 3) ≤ 99999 := zi_rd hImh zq_194 (zb_103 _)
              refine zw_ite (fun h139 => ?_) (fun h139 => ?_)
              · have b140 : 0 ≤ a1 ∧ a1 < 2 := by omega
                refine zw_if b140 ?_
                have r141 : (-2147483648) ≤ (mh 221 a1) ∧ (mh 221 a1) ≤ 2147483647 := zi_rd hImh zq_221 (zb_130 _)
                have w142 := zu_w32_rg ((mh 221 a1) + 1)
                have b143 : 0 ≤ a1 ∧ a1 < 2 := by omega
                refine zw_if b143 ?_
                generalize hmm144 : zu_up mh 221 a1 (zu_w32 ((mh 221 a1) + 1)) = m144
                have hIm144 := zi_up hmm144 hImh zq_221 (zb_130 _) (by omega) (by omega)
                have hFm144 := zfr_up hmm144 hFmh zq_221 rfl
                have hRKNm144 := zR_KN_fr (zdis_fr (zfr_up hmm144 (zfr_rf [(130, 0)] _) zq_221 rfl) rfl) hRKNmh
                exact zw_some ⟨hIm144, hFm144, hRKNm144, trivial⟩
              · have r145 : 0 ≤ (mh a0 66) ∧ (mh a0 66) ≤ 1 := zi_rd hImh hc0 zb_28_66
                refine zw_ite (fun h146 => ?_) (fun h146 => ?_)
                · have b147 : 0 ≤ a1 ∧ a1 < 2 := by omega
                  refine zw_if b147 ?_
                  have r148 : (-2147483648) ≤ (mh 221 a1) ∧ (mh 221 a1) ≤ 2147483647 := zi_rd hImh zq_221 (zb_130 _)
                  have w149 := zu_w32_rg ((mh 221 a1) + 1)
                  have b150 : 0 ≤ a1 ∧ a1 < 2 := by omega
                  refine zw_if b150 ?_
                  generalize hmm151 : zu_up mh 221 a1 (zu_w32 ((mh 221 a1) + 1)) = m151
                  have hIm151 := zi_up hmm151 hImh zq_221 (zb_130 _) (by omega) (by omega)
                  have hFm151 := zfr_up hmm151 hFmh zq_221 rfl
                  have hRKNm151 := zR_KN_fr (zdis_fr (zfr_up hmm151 (zfr_rf [(130, 0)] _) zq_221 rfl) rfl) hRKNmh
                  exact zw_some ⟨hIm151, hFm151, hRKNm151, trivial⟩
                · have hM : (18 - 0) * 1 + 0 < (k : Int) := by omega
                  exact zw_le (zu_forget (zu_lr_same (zu_lr_same (zu_lr_same (zu_lr_same (zu_lr_drop zu_lr_nil)))))) (ih.2.2.2 x2 0 mh hImh hFmh ⟨by omega, by omega⟩ ⟨by omega, by omega⟩ ⟨by omega, by omega⟩ ⟨by omega, by omega⟩ hRKNmh hM)
            · have b152 : 0 ≤ (zu_w32 ((zu_w32 (18 * a1)) + x4)) ∧ (zu_w32 ((zu_w32 (18 * a1)) + x4)) < 36 := by omega
              refine zw_if b152 ?_
              generalize hmm153 : zu_up mh 215 (zu_w32 ((zu_w32 (18 * a1)) + x4)) (-2) = m153
              have hIm153 := zi_up hmm153 hImh zq_215 (zb_124 _) (by omega) (by omega)
              have hFm153 := zfr_up hmm153 hFmh zq_215 rfl
              have hRKNm153 := zR_KN_fr (zdis_fr (zfr_up hmm153 (zfr_rf [(124, 0)] _) zq_215 rfl) rfl) hRKNmh
              have b154 : 0 ≤ (3 : Int) ∧ (3 : Int) < 10 := by omega
              refine zw_if b154 ?_
              have r155 : (-1) ≤ (m153 194 3) ∧ (m153 194 3) ≤ 99999 := zi_rd hIm153 zq_194 (zb_103 _)
              refine zw_ite (fun h156 => ?_) (fun h156 => ?_)
              · have b157 : 0 ≤ a1 ∧ a1 < 2 := by omega
                refine zw_if b157 ?_
                have r158 : (-2147483648) ≤ (m153 221 a1) ∧ (m153 221 a1) ≤ 2147483647 := zi_rd hIm153 zq_221 (zb_130 _)
                have w159 := zu_w32_rg ((m153 221 a1) + 1)
                have b160 : 0 ≤ a1 ∧ a1 < 2 := by omega
                refine zw_if b160 ?_
                generalize hmm161 : zu_up m153 221 a1 (zu_w32 ((m153 221 a1) + 1)) = m161
                have hIm161 := zi_up hmm161 hIm153 zq_221 (zb_130 _) (by omega) (by omega)
                have hFm161 := zfr_up hmm161 hFm153 zq_221 rfl
                have hRKNm161 := zR_KN_fr (zdis_fr (zfr_up hmm161 (zfr_rf [(130, 0)] _) zq_221 rfl) rfl) hRKNm153
                exact zw_some ⟨hIm161, hFm161, hRKNm161, trivial⟩
              · have r162 : 0 ≤ (m153 a0 66) ∧ (m153 a0 66) ≤ 1 := zi_rd hIm153 hc0 zb_28_66
                refine zw_ite (fun h163 => ?_) (fun h163 => ?_)
                · have b164 : 0 ≤ a1 ∧ a1 < 2 := by omega
                  refine zw_if b164 ?_
                  have r165 : (-2147483648) ≤ (m153 221 a1) ∧ (m153 221 a1) ≤ 2147483647 := zi_rd hIm153 zq_221 (zb_130 _)
                  have w166 := zu_w32_rg ((m153 221 a1) + 1)
                  have b167 : 0 ≤ a1 ∧ a1 < 2 := by omega
                  refine zw_if b167 ?_
                  generalize hmm168 : zu_up m153 221 a1 (zu_w32 ((m153 221 a1) + 1)) = m168
                  have hIm168 := zi_up hmm168 hIm153 zq_221 (zb_130 _) (by omega) (by omega)
                  have hFm168 := zfr_up hmm168 hFm153 zq_221 rfl
                  have hRKNm168 := zR_KN_fr (zdis_fr (zfr_up hmm168 (zfr_rf [(130, 0)] _) zq_221 rfl) rfl) hRKNm153
                  exact zw_some ⟨hIm168, hFm168, hRKNm168, trivial⟩
                · have hM : (18 - 0) * 1 + 0 < (k : Int) := by omega
                  exact zw_le (zu_forget (zu_lr_same (zu_lr_same (zu_lr_same (zu_lr_same (zu_lr_drop zu_lr_nil)))))) (ih.2.2.2 x2 0 m153 hIm153 hFm153 ⟨by omega, by omega⟩ ⟨by omega, by omega⟩ ⟨by omega, by omega⟩ ⟨by omega, by omega⟩ hRKNm153 hM)
          · have w169 := zu_w32_id (z := x4 + 1) (by omega) (by omega)
            have hM : (18 - (zu_w32 (x4 + 1))) * 1 + 19 < (k : Int) := by omega
            exact ih.2.2.1 x2 x3 (zu_w32 (x4 + 1)) mh hImh hFmh ⟨by omega, by omega⟩ ⟨by omega, by omega⟩ ⟨by omega, by omega⟩ ⟨by omega, by omega⟩ ⟨by omega, by omega⟩ hRKNmh hM
    · intro x2 x3 mh hImh hFmh hba1 hbx2 hbx3 hg3 hRKNmh hM
      refine zw_eq (zu_rega_at (zt_T n) (zm_140 n) (zdp_140 n) _ _ _ _ _ _ (zr_140_226 n _ _ a0 a1 x2 x3 mh)) ?_
      have b170 : 0 ≤ a1 ∧ a1 < 2 := by omega
      refine zw_if b170 ?_
      have r171 : 0 ≤ (mh 216 a1) ∧ (mh 216 a1) ≤ 18 := zi_rdr (m := 2) (r0 := 0) (r1 := 1) hImh zq_216 (by omega) (by decide +kernel)
      refine zw_ite (fun h172 => ?_) (fun h172 => ?_)
      · have b173 : 0 ≤ a1 ∧ a1 < 2 := by omega
        refine zw_if b173 ?_
        have r174 : (-2147483648) ≤ (mh 221 a1) ∧ (mh 221 a1) ≤ 2147483647 := zi_rd hImh zq_221 (zb_130 _)
        have w175 := zu_w32_rg ((mh 221 a1) + 1)
        have b176 : 0 ≤ a1 ∧ a1 < 2 := by omega
        refine zw_if b176 ?_
        generalize hmm177 : zu_up mh 221 a1 (zu_w32 ((mh 221 a1) + 1)) = m177
        have hIm177 := zi_up hmm177 hImh zq_221 (zb_130 _) (by omega) (by omega)
        have hFm177 := zfr_up hmm177 hFmh zq_221 rfl
        have hRKNm177 := zR_KN_fr (zdis_fr (zfr_up hmm177 (zfr_rf [(130, 0)] _) zq_221 rfl) rfl) hRKNmh
        exact zw_some ⟨hIm177, hFm177, hRKNm177, trivial⟩
      · have w178 := zu_w32_id (z := 18 * a1) (by omega) (by omega)
        have w179 := zu_w32_id (z := (zu_w32 (18 * a1)) + x3) (by omega) (by omega)
        have b180 : 0 ≤ (zu_w32 ((zu_w32 (18 * a1)) + x3)) ∧ (zu_w32 ((zu_w32 (18 * a1)) + x3)) < 36 := by omega
        refine zw_if b180 ?_
        have r181 : (-3) ≤ (mh 215 (zu_w32 ((zu_w32 (18 * a1)) + x3))) ∧ (mh 215 (zu_w32 ((zu_w32 (18 * a1)) + x3))) ≤ 3 := zi_rd hImh zq_215 (zb_124 _)
        refine zw_ite (fun h182 => ?_) (fun h182 => ?_)
        · have w183 := zu_w32_id (z := x3 + 1) (by omega) (by omega)
          have hM : (18 - (zu_w32 (x3 + 1))) * 1 + 0 < (k : Int) := by omega
          exact ih.2.2.2 x2 (zu_w32 (x3 + 1)) mh hImh hFmh ⟨by omega, by omega⟩ ⟨by omega, by omega⟩ ⟨by omega, by omega⟩ ⟨by omega, by omega⟩ hRKNmh hM
        · have b184 : 0 ≤ x3 ∧ x3 < 36 := by omega
          refine zw_if b184 ?_
          have r185 : 0 ≤ (mh 197 x3) ∧ (mh 197 x3) ≤ 47 := zi_rd hImh zq_197 (zb_106 _)
          have b186 : 0 ≤ (mh 197 x3) ∧ (mh 197 x3) < 96 := by omega
          refine zw_if b186 ?_
          have r187 : (-2147483648) ≤ (mh 195 (mh 197 x3)) ∧ (mh 195 (mh 197 x3)) ≤ 2147483647 := zi_rd hImh zq_195 (zb_104 _)
          refine zw_ite (fun h188 => ?_) (fun h188 => ?_)
          · have w189 := zu_w32_id (z := x3 + 1) (by omega) (by omega)
            have hM : (18 - (zu_w32 (x3 + 1))) * 1 + 0 < (k : Int) := by omega
            exact ih.2.2.2 x2 (zu_w32 (x3 + 1)) mh hImh hFmh ⟨by omega, by omega⟩ ⟨by omega, by omega⟩ ⟨by omega, by omega⟩ ⟨by omega, by omega⟩ hRKNmh hM
          · have b190 : 0 ≤ (zu_w32 ((zu_w32 (18 * a1)) + x3)) ∧ (zu_w32 ((zu_w32 (18 * a1)) + x3)) < 36 := by omega
            refine zw_if b190 ?_
            generalize hmm191 : zu_up mh 215 (zu_w32 ((zu_w32 (18 * a1)) + x3)) (-3) = m191
            have hIm191 := zi_up hmm191 hImh zq_215 (zb_124 _) (by omega) (by omega)
            have hFm191 := zfr_up hmm191 hFmh zq_215 rfl
            have hRKNm191 := zR_KN_fr (zdis_fr (zfr_up hmm191 (zfr_rf [(124, 0)] _) zq_215 rfl) rfl) hRKNmh
            have w192 := zu_w32_id (z := x3 + 1) (by omega) (by omega)
            have r193 : 0 ≤ (m191 a0 66) ∧ (m191 a0 66) ≤ 1 := zi_rd hIm191 hc0 zb_28_66
            have e194 : (m191 a0 66) = (mh a0 66) := (zs_ne hmm191 (Or.inl (zc_ne hc0 zq_215 (by decide))))
            have hM : (18 - (zu_w32 (x3 + 1))) * 1 + 0 < (k : Int) := by omega
            exact ih.2.2.2 x2 (zu_w32 (x3 + 1)) m191 hIm191 hFm191 ⟨by omega, by omega⟩ ⟨by omega, by omega⟩ ⟨by omega, by omega⟩ ⟨by omega, by omega⟩ hRKNm191 hM
set_option maxHeartbeats 4000000 in
theorem zk_140 (n : Nat) {a0 a1 : Int} {m0 : zu_m} (hIm0 : zi_I m0) (hc0 : zcls a0 = 28) (ha1 : 0 ≤ a1 ∧ a1 ≤ 1)    (hRKNm0 : zR_KN m0) : zw (zu_call (zt_T n) 140 [(40, a0), (0, a1)] m0) (fun v m => zi_I m ∧ zfr [(28, 54), (28, 64), (122, 0), (123, 0), (124, 0), (126, 0), (128, 0), (129, 0), (130, 0), (131, 0)] m0 m ∧ zR_KN m ∧ True) := by
  have hFm0 : zfr [(28, 54), (28, 64), (122, 0), (123, 0), (124, 0), (126, 0), (128, 0), (129, 0), (130, 0), (131, 0)] m0 m0 := zfr_rf _ _
  refine zw_eq (zu_call_at (zt_T n) (zm_140 n) (zdp_140 n) _ _ _ _ _ rfl (zr_140_0 n _ _ a0 a1 m0)) ?_
  have b195 : 0 ≤ a1 ∧ a1 < 2 := by omega
  refine zw_if b195 ?_
  have r196 : (-2147483648) ≤ (m0 221 a1) ∧ (m0 221 a1) ≤ 2147483647 := zi_rd hIm0 zq_221 (zb_130 _)
  have hM : (4 - 0) * 1 + 43 < ((48 : Nat) : Int) := by omega
  exact (zl_140 n (m0 := m0) hc0 48).1 (m0 221 a1) 0 m0 hIm0 hFm0 ⟨by omega, by omega⟩ ⟨by omega, by omega⟩ ⟨by omega, by omega⟩ hRKNm0 hM
set_option maxHeartbeats 4000000 in
theorem zl_153 (n : Nat) {a0 a1 : Int} {m0 : zu_m} (hc0 : zcls a0 = 28)   : ∀ k : Nat, (∀ (x2 : Int) (mh : zu_m), zi_I mh → zfr [(28, 3), (28, 54), (28, 64), (28, 65), (28, 66), (28, 67), (28, 68), (28, 69), (28, 70), (28, 82), (122, 0), (123, 0), (124, 0), (126, 0), (128, 0), (129, 0), (130, 0), (131, 0)] m0 mh → (0 ≤ a1 ∧ a1 ≤ 200) → (0 ≤ x2 ∧ x2 ≤ 200) → (0 ≤ mh a0 2 ∧ mh a0 2 ≤ 0) → (0 ≤ mh a0 65 ∧ mh a0 65 ≤ 0) → (0 ≤ mh a0 66 ∧ mh a0 66 ≤ 0) → (0 ≤ mh a0 67 ∧ mh a0 67 ≤ 0) → (0 ≤ mh a0 68 ∧ mh a0 68 ≤ 0) → ((-1) ≤ mh a0 69 ∧ mh a0 69 ≤ (-1)) → (zR_KN mh) → (200 - x2) * 1 + 0 < (k : Int) → zw (zu_ex (zt_T n) 153 38 [(40, a0), (0, a1), (0, x2)] [] mh) (fun v m => zi_I m ∧ zfr [(28, 3), (28, 54), (28, 64), (28, 65), (28, 66), (28, 67), (28, 68), (28, 69), (28, 70), (28, 82), (122, 0), (123, 0), (124, 0), (126, 0), (128, 0), (129, 0), (130, 0), (131, 0)] m0 m ∧ zR_KN m ∧ ((-2147483648) ≤ v ∧ v ≤ 2147483647) ∧ (0 ≤ m a0 2 ∧ m a0 2 ≤ 0))) := by
  intro k
  induction k with
  | zero => exact fun x2 mh hImh hFmh hba1 hbx2 hg2 hg3 hg4 hg5 hg6 hg7 hRKNmh hM => by exfalso; omega
  | succ k ih =>
    intro x2 mh hImh hFmh hba1 hbx2 hg2 hg3 hg4 hg5 hg6 hg7 hRKNmh hM
    refine zw_eq (zu_rega_at (zt_T n) (zm_153 n) (zdp_153 n) _ _ _ _ _ _ (zr_153_38 n _ _ a0 a1 x2 mh)) ?_
    refine zw_ite (fun h1 => ?_) (fun h1 => ?_)
    · refine zw_ite (fun h2 => ?_) (fun h2 => ?_)
      · have r3 : 0 ≤ (mh a0 81) ∧ (mh a0 81) ≤ 20 := zi_rd hImh hc0 zb_28_81
        generalize hmm4 : zu_up mh a0 81 (mh a0 81) = m4
        have hIm4 := zi_up hmm4 hImh hc0 zb_28_81 (by omega) (by omega)
        have hFm4 := zfr_up hmm4 hFmh hc0 rfl
        have hRKNm4 := zR_KN_fr (zdis_fr (zfr_up hmm4 (zfr_rf [(28, 82)] _) hc0 rfl) rfl) hRKNmh
        have b5 : 0 ≤ (0 : Int) ∧ (0 : Int) < 2 := by omega
        refine zw_if b5 ?_
        have r6 : (-2147483648) ≤ (m4 221 0) ∧ (m4 221 0) ≤ 2147483647 := zi_rd hIm4 zq_221 (zb_130 _)
        have r7 : (-2147483648) ≤ (m4 a0 2) ∧ (m4 a0 2) ≤ 2147483647 := zi_rd hIm4 hc0 zb_28_2
        have e8 : (m4 a0 2) = (mh a0 2) := (zs_ne hmm4 (Or.inr (by decide)))
        exact zw_some ⟨hIm4, hFm4, hRKNm4, ⟨by omega, by omega⟩, ⟨by omega, by omega⟩⟩
      · generalize hmm9 : zu_up mh a0 81 0 = m9
        have hIm9 := zi_up hmm9 hImh hc0 zb_28_81 (by omega) (by omega)
        have hFm9 := zfr_up hmm9 hFmh hc0 rfl
        have hRKNm9 := zR_KN_fr (zdis_fr (zfr_up hmm9 (zfr_rf [(28, 82)] _) hc0 rfl) rfl) hRKNmh
        have b10 : 0 ≤ (0 : Int) ∧ (0 : Int) < 2 := by omega
        refine zw_if b10 ?_
        have r11 : (-2147483648) ≤ (m9 221 0) ∧ (m9 221 0) ≤ 2147483647 := zi_rd hIm9 zq_221 (zb_130 _)
        have r12 : (-2147483648) ≤ (m9 a0 2) ∧ (m9 a0 2) ≤ 2147483647 := zi_rd hIm9 hc0 zb_28_2
        have e13 : (m9 a0 2) = (mh a0 2) := (zs_ne hmm9 (Or.inr (by decide)))
        exact zw_some ⟨hIm9, hFm9, hRKNm9, ⟨by omega, by omega⟩, ⟨by omega, by omega⟩⟩
    · refine zw_bd (zw_mono (zk_140 n hImh hc0 ⟨by omega, by omega⟩ hRKNmh) (fun v15 m14 hqm14 => ?_))
      obtain ⟨hIm14, hfm14, hvm14⟩ := hqm14
      have hFm14 := zfr_tr hFmh hfm14 rfl
      obtain ⟨hRKNm14, hvm14⟩ := hvm14
      have w16 := zu_w32_id (z := x2 + 1) (by omega) (by omega)
      have r17 : (-2147483648) ≤ (m14 a0 2) ∧ (m14 a0 2) ≤ 2147483647 := zi_rd hIm14 hc0 zb_28_2
      have e18 : (m14 a0 2) = (mh a0 2) := (zfr_ap hfm14 hc0 rfl)
      have r19 : (-2147483648) ≤ (m14 a0 69) ∧ (m14 a0 69) ≤ 2147483647 := zi_rd hIm14 hc0 zb_28_69
      have e20 : (m14 a0 69) = (mh a0 69) := (zfr_ap hfm14 hc0 rfl)
      have r21 : 0 ≤ (m14 a0 65) ∧ (m14 a0 65) ≤ 1 := zi_rd hIm14 hc0 zb_28_65
      have e22 : (m14 a0 65) = (mh a0 65) := (zfr_ap hfm14 hc0 rfl)
      have r23 : 0 ≤ (m14 a0 66) ∧ (m14 a0 66) ≤ 1 := zi_rd hIm14 hc0 zb_28_66
      have e24 : (m14 a0 66) = (mh a0 66) := (zfr_ap hfm14 hc0 rfl)
      have r25 : 0 ≤ (m14 a0 67) ∧ (m14 a0 67) ≤ 1 := zi_rd hIm14 hc0 zb_28_67
      have e26 : (m14 a0 67) = (mh a0 67) := (zfr_ap hfm14 hc0 rfl)
      have r27 : 0 ≤ (m14 a0 68) ∧ (m14 a0 68) ≤ 1 := zi_rd hIm14 hc0 zb_28_68
      have e28 : (m14 a0 68) = (mh a0 68) := (zfr_ap hfm14 hc0 rfl)
      have hM : (200 - (zu_w32 (x2 + 1))) * 1 + 0 < (k : Int) := by omega
      exact ih (zu_w32 (x2 + 1)) m14 hIm14 hFm14 ⟨by omega, by omega⟩ ⟨by omega, by omega⟩ ⟨by omega, by omega⟩ ⟨by omega, by omega⟩ ⟨by omega, by omega⟩ ⟨by omega, by omega⟩ ⟨by omega, by omega⟩ ⟨by omega, by omega⟩ hRKNm14 hM
set_option maxHeartbeats 4000000 in
theorem zk_153 (n : Nat) {a0 a1 : Int} {m0 : zu_m} (hIm0 : zi_I m0) (hc0 : zcls a0 = 28) (ha1 : (-2147483648) ≤ a1 ∧ a1 ≤ 2147483647)    (hRKNm0 : zR_KN m0) : zw (zu_call (zt_T n) 153 [(40, a0), (0, a1)] m0) (fun v m => zi_I m ∧ zfr [(28, 3), (28, 54), (28, 64), (28, 65), (28, 66), (28, 67), (28, 68), (28, 69), (28, 70), (28, 82), (122, 0), (123, 0), (124, 0), (126, 0), (128, 0), (129, 0), (130, 0), (131, 0)] m0 m ∧ zR_KN m ∧ ((-2147483648) ≤ v ∧ v ≤ 2147483647) ∧ (0 ≤ m a0 2 ∧ m a0 2 ≤ 0)) := by
  have hFm0 : zfr [(28, 3), (28, 54), (28, 64), (28, 65), (28, 66), (28, 67), (28, 68), (28, 69), (28, 70), (28, 82), (122, 0), (123, 0), (124, 0), (126, 0), (128, 0), (129, 0), (130, 0), (131, 0)] m0 m0 := zfr_rf _ _
  refine zw_eq (zu_call_at (zt_T n) (zm_153 n) (zdp_153 n) _ _ _ _ _ rfl (zr_153_0 n _ _ a0 a1 m0)) ?_
  generalize hmm29 : zu_up m0 a0 2 0 = m29
  have hIm29 := zi_up hmm29 hIm0 hc0 zb_28_2 (by omega) (by omega)
  have hFm29 := zfr_up hmm29 hFm0 hc0 rfl
  have hRKNm29 := zR_KN_fr (zdis_fr (zfr_up hmm29 (zfr_rf [(28, 3)] _) hc0 rfl) rfl) hRKNm0
  refine zw_bd (zw_eq (zu_call_at (zt_T n) (zm_83 n) (zdp_83 n) _ _ _ _ _ rfl (zr_83_0 n _ _ a1 0 200 m29)) ?_)
  refine zw_ite (fun h30 => ?_) (fun h30 => ?_)
  · refine zw_b (by omega) ?_
    refine zw_some ?_
    refine zw_ite (fun h31 => ?_) (fun h31 => ?_)
    · have r32 : (-2147483648) ≤ (m29 a0 2) ∧ (m29 a0 2) ≤ 2147483647 := zi_rd hIm29 hc0 zb_28_2
      have e33 : (m29 a0 2) = 0 := (zs_eq hmm29)
      exact zw_some ⟨hIm29, hFm29, hRKNm29, ⟨by omega, by omega⟩, ⟨by omega, by omega⟩⟩
    · exfalso; omega
  · refine zw_ite (fun h34 => ?_) (fun h34 => ?_)
    · refine zw_b (by omega) ?_
      refine zw_some ?_
      refine zw_ite (fun h35 => ?_) (fun h35 => ?_)
      · have r36 : (-2147483648) ≤ (m29 a0 2) ∧ (m29 a0 2) ≤ 2147483647 := zi_rd hIm29 hc0 zb_28_2
        have e37 : (m29 a0 2) = 0 := (zs_eq hmm29)
        exact zw_some ⟨hIm29, hFm29, hRKNm29, ⟨by omega, by omega⟩, ⟨by omega, by omega⟩⟩
      · exfalso; omega
    · refine zw_b (by omega) ?_
      refine zw_some ?_
      refine zw_ite (fun h38 => ?_) (fun h38 => ?_)
      · exfalso; omega
      · have b39 : 0 ≤ (0 : Int) ∧ (0 : Int) < 2 := by omega
        refine zw_if b39 ?_
        have r40 : (-2147483648) ≤ (m29 221 0) ∧ (m29 221 0) ≤ 2147483647 := zi_rd hIm29 zq_221 (zb_130 _)
        have w41 := zu_w32_rg ((m29 221 0) + a1)
        refine zw_ite (fun h42 => ?_) (fun h42 => ?_)
        · refine zw_bd (zw_mono (zk_35 n hIm29 hc0) (fun v44 m43 hqm43 => ?_))
          obtain ⟨hIm43, hfm43, hvm43⟩ := hqm43
          have hFm43 := zfr_tr hFm29 hfm43 rfl
          have hRKNm43 := zR_KN_fr (zdis_fr hfm43 rfl) hRKNm29
          have r45 : (-2147483648) ≤ (m43 a0 2) ∧ (m43 a0 2) ≤ 2147483647 := zi_rd hIm43 hc0 zb_28_2
          have e46 : (m43 a0 2) = 0 := (Eq.trans (zfr_ap hfm43 hc0 rfl) (zs_eq hmm29))
          have hM : (200 - 0) * 1 + 0 < ((201 : Nat) : Int) := by omega
          exact (zl_153 n (m0 := m0) hc0 201) 0 m43 hIm43 hFm43 ⟨by omega, by omega⟩ ⟨by omega, by omega⟩ ⟨by omega, by omega⟩ ⟨by omega, by omega⟩ ⟨by omega, by omega⟩ ⟨by omega, by omega⟩ ⟨by omega, by omega⟩ ⟨by omega, by omega⟩ hRKNm43 hM
        · have r47 : (-2147483648) ≤ (m29 a0 2) ∧ (m29 a0 2) ≤ 2147483647 := zi_rd hIm29 hc0 zb_28_2
          have e48 : (m29 a0 2) = 0 := (zs_eq hmm29)
          exact zw_some ⟨hIm29, hFm29, hRKNm29, ⟨by omega, by omega⟩, ⟨by omega, by omega⟩⟩
set_option maxHeartbeats 4000000 in
theorem zl_159 (n : Nat) {a0 a1 : Int} {m0 : zu_m} (hc0 : zcls a0 = 28)   : ∀ k : Nat, (∀ (x2 : Int) (mh : zu_m), zi_I mh → zfr [(28, 54), (28, 64), (28, 65), (28, 66), (28, 67), (28, 68), (28, 69), (28, 70), (122, 0), (123, 0), (124, 0), (126, 0), (128, 0), (129, 0), (130, 0), (131, 0)] m0 mh → (0 ≤ a1 ∧ a1 ≤ 200) → (0 ≤ x2 ∧ x2 ≤ 200) → (1 ≤ mh a0 65 ∧ mh a0 65 ≤ 1) → (zR_KN mh) → (200 - x2) * 1 + 0 < (k : Int) → zw (zu_ex (zt_T n) 159 7 [(40, a0), (0, a1), (0, x2)] [] mh) (fun v m => zi_I m ∧ zfr [(28, 54), (28, 64), (28, 65), (28, 66), (28, 67), (28, 68), (28, 69), (28, 70), (122, 0), (123, 0), (124, 0), (126, 0), (128, 0), (129, 0), (130, 0), (131, 0)] m0 m ∧ zR_KN m ∧ True ∧ (0 ≤ m a0 65 ∧ m a0 65 ≤ 0))) := by
  intro k
  induction k with
  | zero => exact fun x2 mh hImh hFmh hba1 hbx2 hg2 hRKNmh hM => by exfalso; omega
  | succ k ih =>
    intro x2 mh hImh hFmh hba1 hbx2 hg2 hRKNmh hM
    refine zw_eq (zu_rega_at (zt_T n) (zm_159 n) (zdp_159 n) _ _ _ _ _ _ (zr_159_7 n _ _ a0 a1 x2 mh)) ?_
    refine zw_ite (fun h1 => ?_) (fun h1 => ?_)
    · refine zw_bd (zw_mono (zk_35 n hImh hc0) (fun v3 m2 hqm2 => ?_))
      obtain ⟨hIm2, hfm2, hvm2⟩ := hqm2
      have hFm2 := zfr_tr hFmh hfm2 rfl
      have hRKNm2 := zR_KN_fr (zdis_fr hfm2 rfl) hRKNmh
      exact zw_some ⟨hIm2, hFm2, hRKNm2, trivial, ⟨by omega, by omega⟩⟩
    · refine zw_bd (zw_mono (zk_140 n hImh hc0 ⟨by omega, by omega⟩ hRKNmh) (fun v5 m4 hqm4 => ?_))
      obtain ⟨hIm4, hfm4, hvm4⟩ := hqm4
      have hFm4 := zfr_tr hFmh hfm4 rfl
      obtain ⟨hRKNm4, hvm4⟩ := hvm4
      have w6 := zu_w32_id (z := x2 + 1) (by omega) (by omega)
      have r7 : 0 ≤ (m4 a0 65) ∧ (m4 a0 65) ≤ 1 := zi_rd hIm4 hc0 zb_28_65
      have e8 : (m4 a0 65) = (mh a0 65) := (zfr_ap hfm4 hc0 rfl)
      have hM : (200 - (zu_w32 (x2 + 1))) * 1 + 0 < (k : Int) := by omega
      exact ih (zu_w32 (x2 + 1)) m4 hIm4 hFm4 ⟨by omega, by omega⟩ ⟨by omega, by omega⟩ ⟨by omega, by omega⟩ hRKNm4 hM
set_option maxHeartbeats 4000000 in
theorem zk_159 (n : Nat) {a0 a1 : Int} {m0 : zu_m} (hIm0 : zi_I m0) (hc0 : zcls a0 = 28) (ha1 : 0 ≤ a1 ∧ a1 ≤ 200)    (hRKNm0 : zR_KN m0) : zw (zu_call (zt_T n) 159 [(40, a0), (0, a1)] m0) (fun v m => zi_I m ∧ zfr [(28, 54), (28, 64), (28, 65), (28, 66), (28, 67), (28, 68), (28, 69), (28, 70), (122, 0), (123, 0), (124, 0), (126, 0), (128, 0), (129, 0), (130, 0), (131, 0)] m0 m ∧ zR_KN m ∧ True ∧ (0 ≤ m a0 65 ∧ m a0 65 ≤ 0)) := by
  have hFm0 : zfr [(28, 54), (28, 64), (28, 65), (28, 66), (28, 67), (28, 68), (28, 69), (28, 70), (122, 0), (123, 0), (124, 0), (126, 0), (128, 0), (129, 0), (130, 0), (131, 0)] m0 m0 := zfr_rf _ _
  refine zw_eq (zu_call_at (zt_T n) (zm_159 n) (zdp_159 n) _ _ _ _ _ rfl (zr_159_0 n _ _ a0 a1 m0)) ?_
  refine zw_b (by omega) ?_
  generalize hmm9 : zu_up m0 a0 65 1 = m9
  have hIm9 := zi_up hmm9 hIm0 hc0 zb_28_65 (by omega) (by omega)
  have hFm9 := zfr_up hmm9 hFm0 hc0 rfl
  have hRKNm9 := zR_KN_fr (zdis_fr (zfr_up hmm9 (zfr_rf [(28, 66)] _) hc0 rfl) rfl) hRKNm0
  have r10 : 0 ≤ (m9 a0 65) ∧ (m9 a0 65) ≤ 1 := zi_rd hIm9 hc0 zb_28_65
  have e11 : (m9 a0 65) = 1 := (zs_eq hmm9)
  have hM : (200 - 0) * 1 + 0 < ((201 : Nat) : Int) := by omega
  exact (zl_159 n (m0 := m0) hc0 201) 0 m9 hIm9 hFm9 ⟨by omega, by omega⟩ ⟨by omega, by omega⟩ ⟨by omega, by omega⟩ hRKNm9 hM

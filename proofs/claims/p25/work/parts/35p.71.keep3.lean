/-! keepText: what stays of laws, kinds, wide, high -/
def zKP (a0 : Int) (s m : zu_m) : Prop := (∀ q, 0 ≤ q → q < 4 → m 205 q = s 205 (4 + q) ∧ m 206 q = s 206 (4 + q) ∧ m 207 q = s 207 (4 + q)) ∧ (∀ j, 0 ≤ j → j < 64 → m 208 j = s 208 (64 + j) ∧ m 209 j = s 209 (64 + j) ∧ m 210 j = s 210 (64 + j)) ∧ (∀ c, m 195 c = s 195 c) ∧ m a0 12 = s a0 12 ∧ m a0 13 = s a0 13
def zKT (a0 : Int) (s m : zu_m) : Prop := (∀ q, 0 ≤ q → q < 4 → m 205 q = s 205 (4 + q) ∧ m 206 q = s 206 (4 + q) ∧ m 207 q = s 207 (4 + q)) ∧ (∀ j, 0 ≤ j → j < 64 → m 208 j = s 208 (64 + j) ∧ m 209 j = s 209 (64 + j) ∧ m 210 j = s 210 (64 + j)) ∧ (∀ c, 0 ≤ c → c < 48 → m 195 c = s 195 (48 + c)) ∧ m a0 12 = s a0 17 ∧ m a0 13 = s a0 18
theorem zKP_st {a0 x v : Int} {s s1 m : zu_m} (hm : zu_up s 205 x v = s1) (hx : x < 4) (hc0 : zcls a0 = 28) (h : zKP a0 s1 m) : zKP a0 s m := by
  obtain ⟨h1, h2, h3, h4, h5⟩ := h
  have n0 : a0 ≠ 205 := zc_ne hc0 zq_205 (by decide)
  refine ⟨fun q q0 q1 => ?_, fun j j0 j1 => ?_, fun c => (h3 c).trans (zs_ne hm (Or.inl (by decide))), h4.trans (zs_ne hm (Or.inl n0)), h5.trans (zs_ne hm (Or.inl n0))⟩
  · obtain ⟨a, b, c⟩ := h1 q q0 q1
    exact ⟨a.trans (zs_ne hm (Or.inr (by omega))), b.trans (zs_ne hm (Or.inl (by decide))), c.trans (zs_ne hm (Or.inl (by decide)))⟩
  · obtain ⟨a, b, c⟩ := h2 j j0 j1
    exact ⟨a.trans (zs_ne hm (Or.inl (by decide))), b.trans (zs_ne hm (Or.inl (by decide))), c.trans (zs_ne hm (Or.inl (by decide)))⟩
def zWK : List (Nat × Nat) := [(28, 13), (28, 14), (28, 15), (28, 16), (28, 17), (103, 0), (104, 0), (106, 0), (107, 0), (108, 0), (109, 0), (110, 0), (111, 0), (112, 0), (113, 0)]
set_option maxHeartbeats 4000000 in
theorem zl_31q (n : Nat) {a0 : Int} {m0 : zu_m} (hc0 : zcls a0 = 28)  (hxp0 : (m0 a0 4) = 0) : ∀ k : Nat, (∀ (x1 : Int) (mh : zu_m), zi_I mh → zfr [(28, 13), (28, 14), (28, 15), (28, 16), (28, 17), (28, 54), (28, 63), (28, 64), (28, 65), (28, 66), (28, 67), (28, 68), (28, 69), (28, 70), (28, 78), (28, 79), (28, 82), (28, 84), (103, 0), (104, 0), (106, 0), (107, 0), (108, 0), (109, 0), (110, 0), (111, 0), (112, 0), (113, 0), (114, 0), (115, 0), (116, 0), (117, 0), (118, 0), (119, 0), (122, 0), (123, 0), (124, 0), (125, 0), (126, 0), (127, 0), (128, 0), (129, 0), (130, 0), (131, 0)] m0 mh → (0 ≤ x1 ∧ x1 ≤ 4) → (∀ k, 0 ≤ k → k < x1 → mh 205 k = mh 205 (4 + k)) → ((mh a0 4) = 0) → (zR_C0 mh) → (zR_CR mh) → (zR_KN mh) → (zR_LR mh) → (4 - x1) * 1 + 0 < (k : Int) → zw (zu_ex (zt_T n) 31 126 [(40, a0), (0, x1)] [] mh) (fun v m => zi_I m ∧ zfr [(28, 13), (28, 14), (28, 15), (28, 16), (28, 17), (28, 54), (28, 63), (28, 64), (28, 65), (28, 66), (28, 67), (28, 68), (28, 69), (28, 70), (28, 78), (28, 79), (28, 82), (28, 84), (103, 0), (104, 0), (106, 0), (107, 0), (108, 0), (109, 0), (110, 0), (111, 0), (112, 0), (113, 0), (114, 0), (115, 0), (116, 0), (117, 0), (118, 0), (119, 0), (122, 0), (123, 0), (124, 0), (125, 0), (126, 0), (127, 0), (128, 0), (129, 0), (130, 0), (131, 0)] m0 m ∧ zR_C0 m ∧ zR_CR m ∧ zR_KN m ∧ zR_LT m ∧ zR_RI m ∧ zR_RU m ∧ zE1 m 0 ∧ zR_TE m ∧ True ∧ zKP a0 mh m)) := by
  intro k
  induction k with
  | zero => exact fun x1 mh hImh hFmh hbx1 hH0 hH1 hRC0mh hRCRmh hRKNmh hRLRmh hM => by exfalso; omega
  | succ k ih =>
    intro x1 mh hImh hFmh hbx1 hH0 hH1 hRC0mh hRCRmh hRKNmh hRLRmh hM
    refine zw_eq (zu_rega_at (zt_T n) (zm_31 n) (zdp_31 n) _ _ _ _ _ _ (zr_31_126 n _ _ a0 x1 mh)) ?_
    have r1 : (-2147483648) ≤ (mh a0 4) ∧ (mh a0 4) ≤ 2147483647 := zi_rd hImh hc0 zb_28_4
    refine zw_ite (fun h2 => ?_) (fun h2 => ?_)
    · refine zw_bd (zw_mono (zk_32_115 n hImh zq_206 ⟨by decide, by decide⟩) (fun v4 m3 hqm3 => ?_))
      obtain ⟨hIm3, hfm3, hvm3⟩ := hqm3
      have hFm3 := zfr_tr hFmh hfm3 rfl
      have hRC0m3 := zR_C0_fr (zdis_fr hfm3 rfl) hRC0mh
      have hRCRm3 := zR_CR_fr (zdis_fr hfm3 rfl) hRCRmh
      have hRKNm3 := zR_KN_fr (zdis_fr hfm3 rfl) hRKNmh
      have hRLRm3 := zR_LR_fr (zdis_fr hfm3 rfl) hRLRmh
      refine zw_bd (zw_mono (zk_32_116 n hIm3 zq_207 ⟨by decide, by decide⟩) (fun v6 m5 hqm5 => ?_))
      obtain ⟨hIm5, hfm5, hvm5⟩ := hqm5
      have hFm5 := zfr_tr hFm3 hfm5 rfl
      have hRC0m5 := zR_C0_fr (zdis_fr hfm5 rfl) hRC0m3
      have hRCRm5 := zR_CR_fr (zdis_fr hfm5 rfl) hRCRm3
      have hRKNm5 := zR_KN_fr (zdis_fr hfm5 rfl) hRKNm3
      have r7 : (-2147483648) ≤ (m3 a0 4) ∧ (m3 a0 4) ≤ 2147483647 := zi_rd hIm3 hc0 zb_28_4
      have e8 : (m3 a0 4) = (mh a0 4) := (zfr_ap hfm3 hc0 rfl)
      have hRLTm5 := zLT_keep (zone_190 hc0) hH0 (by omega) (fun _ => (zfr_ap hfm3 zq_205 rfl)) (hvm5.2) (fun _ => zfr_ap hfm5 zq_205 rfl) (by omega) hRLRm3
      refine zw_bd (zw_mono (zk_32_117 n hIm5 zq_208 ⟨by decide, by decide⟩) (fun v10 m9 hqm9 => ?_))
      obtain ⟨hIm9, hfm9, hvm9⟩ := hqm9
      have hFm9 := zfr_tr hFm5 hfm9 rfl
      have hRC0m9 := zR_C0_fr (zdis_fr hfm9 rfl) hRC0m5
      have hRCRm9 := zR_CR_fr (zdis_fr hfm9 rfl) hRCRm5
      have hRLTm9 := zR_LT_fr (zdis_fr hfm9 rfl) hRLTm5
      refine zw_bd (zw_mono (zk_32_118 n hIm9 zq_209 ⟨by decide, by decide⟩) (fun v12 m11 hqm11 => ?_))
      obtain ⟨hIm11, hfm11, hvm11⟩ := hqm11
      have hFm11 := zfr_tr hFm9 hfm11 rfl
      have hRC0m11 := zR_C0_fr (zdis_fr hfm11 rfl) hRC0m9
      have hRCRm11 := zR_CR_fr (zdis_fr hfm11 rfl) hRCRm9
      have hRLTm11 := zR_LT_fr (zdis_fr hfm11 rfl) hRLTm9
      refine zw_bd (zw_mono (zk_32_119 n hIm11 zq_210 ⟨by decide, by decide⟩) (fun v14 m13 hqm13 => ?_))
      obtain ⟨hIm13, hfm13, hvm13⟩ := hqm13
      have hFm13 := zfr_tr hFm11 hfm13 rfl
      have hRC0m13 := zR_C0_fr (zdis_fr hfm13 rfl) hRC0m11
      have hRCRm13 := zR_CR_fr (zdis_fr hfm13 rfl) hRCRm11
      have hRLTm13 := zR_LT_fr (zdis_fr hfm13 rfl) hRLTm11
      have hRKNm13 := zKN_cp hvm9.2 hfm9 hvm11.2 hfm11 hvm13.2 hfm13 hRKNm5
      refine zw_bd (zw_mono (zk_33 n hIm13 hc0 hRC0m13 hRKNm13 hRLTm13) (fun v16 m15 hqm15 => ?_))
      obtain ⟨hIm15, hfm15, hvm15⟩ := hqm15
      have hFm15 := zfr_tr hFm13 hfm15 rfl
      obtain ⟨hRC0m15, hRKNm15, hRLTm15, hRRIm15, hRRUm15, hRSEm15, hRTEm15, hvm15⟩ := hvm15
      have hRCRm15 := zR_CR_fr (zdis_fr hfm15 rfl) hRCRm13
      have hKP : zKP a0 mh m15 := ⟨fun q q0 q1 => ⟨(Eq.trans (zfr_ap (p := q) hfm15 zq_205 rfl) (Eq.trans (zfr_ap (p := q) hfm13 zq_205 rfl) (Eq.trans (zfr_ap (p := q) hfm11 zq_205 rfl) (Eq.trans (zfr_ap (p := q) hfm9 zq_205 rfl) (Eq.trans (zfr_ap (p := q) hfm5 zq_205 rfl) (Eq.trans (zfr_ap (p := q) hfm3 zq_205 rfl) (hH0 q q0 (by omega)))))))), (Eq.trans (zfr_ap (p := q) hfm15 zq_206 rfl) (Eq.trans (zfr_ap (p := q) hfm13 zq_206 rfl) (Eq.trans (zfr_ap (p := q) hfm11 zq_206 rfl) (Eq.trans (zfr_ap (p := q) hfm9 zq_206 rfl) (Eq.trans (zfr_ap (p := q) hfm5 zq_206 rfl) (hvm3.2.1 q q0 q1)))))), (Eq.trans (zfr_ap (p := q) hfm15 zq_207 rfl) (Eq.trans (zfr_ap (p := q) hfm13 zq_207 rfl) (Eq.trans (zfr_ap (p := q) hfm11 zq_207 rfl) (Eq.trans (zfr_ap (p := q) hfm9 zq_207 rfl) (Eq.trans (hvm5.2.1 q q0 q1) (zfr_ap (p := 4 + q) hfm3 zq_207 rfl))))))⟩, fun j j0 j1 => ⟨(Eq.trans (zfr_ap (p := j) hfm15 zq_208 rfl) (Eq.trans (zfr_ap (p := j) hfm13 zq_208 rfl) (Eq.trans (zfr_ap (p := j) hfm11 zq_208 rfl) (Eq.trans (hvm9.2.1 j j0 j1) (Eq.trans (zfr_ap (p := 64 + j) hfm5 zq_208 rfl) (zfr_ap (p := 64 + j) hfm3 zq_208 rfl)))))), (Eq.trans (zfr_ap (p := j) hfm15 zq_209 rfl) (Eq.trans (zfr_ap (p := j) hfm13 zq_209 rfl) (Eq.trans (hvm11.2.1 j j0 j1) (Eq.trans (zfr_ap (p := 64 + j) hfm9 zq_209 rfl) (Eq.trans (zfr_ap (p := 64 + j) hfm5 zq_209 rfl) (zfr_ap (p := 64 + j) hfm3 zq_209 rfl)))))), (Eq.trans (zfr_ap (p := j) hfm15 zq_210 rfl) (Eq.trans (hvm13.2.1 j j0 j1) (Eq.trans (zfr_ap (p := 64 + j) hfm11 zq_210 rfl) (Eq.trans (zfr_ap (p := 64 + j) hfm9 zq_210 rfl) (Eq.trans (zfr_ap (p := 64 + j) hfm5 zq_210 rfl) (zfr_ap (p := 64 + j) hfm3 zq_210 rfl))))))⟩, fun c => (Eq.trans (zfr_ap (p := c) hfm15 zq_195 rfl) (Eq.trans (zfr_ap (p := c) hfm13 zq_195 rfl) (Eq.trans (zfr_ap (p := c) hfm11 zq_195 rfl) (Eq.trans (zfr_ap (p := c) hfm9 zq_195 rfl) (Eq.trans (zfr_ap (p := c) hfm5 zq_195 rfl) (zfr_ap (p := c) hfm3 zq_195 rfl)))))), (Eq.trans (zfr_ap (p := 12) hfm15 hc0 rfl) (Eq.trans (zfr_ap (p := 12) hfm13 hc0 rfl) (Eq.trans (zfr_ap (p := 12) hfm11 hc0 rfl) (Eq.trans (zfr_ap (p := 12) hfm9 hc0 rfl) (Eq.trans (zfr_ap (p := 12) hfm5 hc0 rfl) (zfr_ap (p := 12) hfm3 hc0 rfl)))))), (Eq.trans (zfr_ap (p := 13) hfm15 hc0 rfl) (Eq.trans (zfr_ap (p := 13) hfm13 hc0 rfl) (Eq.trans (zfr_ap (p := 13) hfm11 hc0 rfl) (Eq.trans (zfr_ap (p := 13) hfm9 hc0 rfl) (Eq.trans (zfr_ap (p := 13) hfm5 hc0 rfl) (zfr_ap (p := 13) hfm3 hc0 rfl))))))⟩
      exact zw_some ⟨hIm15, hFm15, hRC0m15, hRCRm15, hRKNm15, hRLTm15, hRRIm15, hRRUm15, hRSEm15, hRTEm15, trivial, hKP⟩
    · have w17 := zu_w32_id (z := 4 + x1) (by omega) (by omega)
      have b18 : 0 ≤ (zu_w32 (4 + x1)) ∧ (zu_w32 (4 + x1)) < 8 := by omega
      refine zw_if b18 ?_
      have r19 : 0 ≤ (mh 205 (zu_w32 (4 + x1))) ∧ (mh 205 (zu_w32 (4 + x1))) ≤ 1 := zi_rd hImh zq_205 (zb_114 _)
      refine zw_b (by omega) ?_
      have b20 : 0 ≤ x1 ∧ x1 < 8 := by omega
      refine zw_if b20 ?_
      generalize hmm21 : zu_up mh 205 x1 (mh 205 (zu_w32 (4 + x1))) = m21
      have hIm21 := zi_up hmm21 hImh zq_205 (zb_114 _) (by omega) (by omega)
      have hFm21 := zfr_up hmm21 hFmh zq_205 rfl
      have hRC0m21 := zR_C0_fr (zdis_fr (zfr_up hmm21 (zfr_rf [(114, 0)] _) zq_205 rfl) rfl) hRC0mh
      have hRCRm21 := zR_CR_fr (zdis_fr (zfr_up hmm21 (zfr_rf [(114, 0)] _) zq_205 rfl) rfl) hRCRmh
      have hRKNm21 := zR_KN_fr (zdis_fr (zfr_up hmm21 (zfr_rf [(114, 0)] _) zq_205 rfl) rfl) hRKNmh
      have hRLRm21 := zLR_lo hmm21 (by omega) hRLRmh
      have w22 := zu_w32_id (z := x1 + 1) (by omega) (by omega)
      have r23 : (-2147483648) ≤ (m21 a0 4) ∧ (m21 a0 4) ≤ 2147483647 := zi_rd hIm21 hc0 zb_28_4
      have e24 : (m21 a0 4) = (mh a0 4) := (zs_ne hmm21 (Or.inl (zc_ne hc0 zq_205 (by decide))))
      have hM : (4 - (zu_w32 (x1 + 1))) * 1 + 0 < (k : Int) := by omega
      refine zw_mono (ih (zu_w32 (x1 + 1)) m21 hIm21 hFm21 ⟨by omega, by omega⟩ (zk5_s hmm21 hH0 (by omega) rfl (by omega) (by omega)) (by omega) hRC0m21 hRCRm21 hRKNm21 hRLRm21 hM) (fun v m hs => ?_)
      obtain ⟨g1, g2, g3, g4, g5, g6, g7, g8, g9, g10, g11, gK⟩ := hs
      exact ⟨g1, g2, g3, g4, g5, g6, g7, g8, g9, g10, g11, zKP_st hmm21 (by omega) hc0 gK⟩
set_option maxHeartbeats 4000000 in
theorem zk_31q (n : Nat) {a0 : Int} {m0 : zu_m} (hIm0 : zi_I m0) (hc0 : zcls a0 = 28)    (hxp0 : (m0 a0 4) = 0) (hRCRm0 : zR_CR m0) (hRKNm0 : zR_KN m0) (hRLRm0 : zR_LR m0) : zw (zu_call (zt_T n) 31 [(40, a0)] m0) (fun v m => zi_I m ∧ zfr [(28, 13), (28, 14), (28, 15), (28, 16), (28, 17), (28, 54), (28, 63), (28, 64), (28, 65), (28, 66), (28, 67), (28, 68), (28, 69), (28, 70), (28, 78), (28, 79), (28, 82), (28, 84), (103, 0), (104, 0), (106, 0), (107, 0), (108, 0), (109, 0), (110, 0), (111, 0), (112, 0), (113, 0), (114, 0), (115, 0), (116, 0), (117, 0), (118, 0), (119, 0), (122, 0), (123, 0), (124, 0), (125, 0), (126, 0), (127, 0), (128, 0), (129, 0), (130, 0), (131, 0)] m0 m ∧ zR_C0 m ∧ zR_CR m ∧ zR_KN m ∧ zR_LT m ∧ zR_RI m ∧ zR_RU m ∧ zE1 m 0 ∧ zR_TE m ∧ True ∧ zKT a0 m0 m) := by
  have hFm0 : zfr [(28, 13), (28, 14), (28, 15), (28, 16), (28, 17), (28, 54), (28, 63), (28, 64), (28, 65), (28, 66), (28, 67), (28, 68), (28, 69), (28, 70), (28, 78), (28, 79), (28, 82), (28, 84), (103, 0), (104, 0), (106, 0), (107, 0), (108, 0), (109, 0), (110, 0), (111, 0), (112, 0), (113, 0), (114, 0), (115, 0), (116, 0), (117, 0), (118, 0), (119, 0), (122, 0), (123, 0), (124, 0), (125, 0), (126, 0), (127, 0), (128, 0), (129, 0), (130, 0), (131, 0)] m0 m0 := zfr_rf _ _
  have hNm0 : zfr zWK m0 m0 := zfr_rf _ _
  have r25 : (-2147483648) ≤ (m0 a0 4) ∧ (m0 a0 4) ≤ 2147483647 := zi_rd hIm0 hc0 zb_28_4
  refine zw_eq (zu_call_at (zt_T n) (zm_31 n) (zdp_31 n) _ _ _ _ _ rfl (zr_31_0 n _ _ a0 m0)) ?_
  have r26 : 1 ≤ (m0 a0 17) ∧ (m0 a0 17) ≤ 8 := zi_rd hIm0 hc0 zb_28_17
  generalize hmm27 : zu_up m0 a0 12 (m0 a0 17) = m27
  have hIm27 := zi_up hmm27 hIm0 hc0 zb_28_12 (by omega) (by omega)
  have hFm27 := zfr_up hmm27 hFm0 hc0 rfl
  have hNm27 := zfr_up hmm27 hNm0 hc0 rfl
  have hRCRm27 := zR_CR_fr (zdis_fr (zfr_up hmm27 (zfr_rf [(28, 13)] _) hc0 rfl) rfl) hRCRm0
  have hRKNm27 := zR_KN_fr (zdis_fr (zfr_up hmm27 (zfr_rf [(28, 13)] _) hc0 rfl) rfl) hRKNm0
  have hRLRm27 := zR_LR_fr (zdis_fr (zfr_up hmm27 (zfr_rf [(28, 13)] _) hc0 rfl) rfl) hRLRm0
  have r28 : 1 ≤ (m27 a0 18) ∧ (m27 a0 18) ≤ 6 := zi_rd hIm27 hc0 zb_28_18
  generalize hmm29 : zu_up m27 a0 13 (m27 a0 18) = m29
  have hIm29 := zi_up hmm29 hIm27 hc0 zb_28_13 (by omega) (by omega)
  have hFm29 := zfr_up hmm29 hFm27 hc0 rfl
  have hNm29 := zfr_up hmm29 hNm27 hc0 rfl
  have hRCRm29 := zR_CR_fr (zdis_fr (zfr_up hmm29 (zfr_rf [(28, 14)] _) hc0 rfl) rfl) hRCRm27
  have hRKNm29 := zR_KN_fr (zdis_fr (zfr_up hmm29 (zfr_rf [(28, 14)] _) hc0 rfl) rfl) hRKNm27
  have hRLRm29 := zR_LR_fr (zdis_fr (zfr_up hmm29 (zfr_rf [(28, 14)] _) hc0 rfl) rfl) hRLRm27
  have r30 : 0 ≤ (m29 a0 19) ∧ (m29 a0 19) ≤ 12 := zi_rd hIm29 hc0 zb_28_19
  generalize hmm31 : zu_up m29 a0 14 (m29 a0 19) = m31
  have hIm31 := zi_up hmm31 hIm29 hc0 zb_28_14 (by omega) (by omega)
  have hFm31 := zfr_up hmm31 hFm29 hc0 rfl
  have hNm31 := zfr_up hmm31 hNm29 hc0 rfl
  have hRCRm31 := zR_CR_fr (zdis_fr (zfr_up hmm31 (zfr_rf [(28, 15)] _) hc0 rfl) rfl) hRCRm29
  have hRKNm31 := zR_KN_fr (zdis_fr (zfr_up hmm31 (zfr_rf [(28, 15)] _) hc0 rfl) rfl) hRKNm29
  have hRLRm31 := zR_LR_fr (zdis_fr (zfr_up hmm31 (zfr_rf [(28, 15)] _) hc0 rfl) rfl) hRLRm29
  have r32 : 0 ≤ (m31 a0 20) ∧ (m31 a0 20) ≤ 4 := zi_rd hIm31 hc0 zb_28_20
  generalize hmm33 : zu_up m31 a0 15 (m31 a0 20) = m33
  have hIm33 := zi_up hmm33 hIm31 hc0 zb_28_15 (by omega) (by omega)
  have hFm33 := zfr_up hmm33 hFm31 hc0 rfl
  have hNm33 := zfr_up hmm33 hNm31 hc0 rfl
  have hRCRm33 := zR_CR_fr (zdis_fr (zfr_up hmm33 (zfr_rf [(28, 16)] _) hc0 rfl) rfl) hRCRm31
  have hRKNm33 := zR_KN_fr (zdis_fr (zfr_up hmm33 (zfr_rf [(28, 16)] _) hc0 rfl) rfl) hRKNm31
  have hRLRm33 := zR_LR_fr (zdis_fr (zfr_up hmm33 (zfr_rf [(28, 16)] _) hc0 rfl) rfl) hRLRm31
  have r34 : 0 ≤ (m33 a0 21) ∧ (m33 a0 21) ≤ 64 := zi_rd hIm33 hc0 zb_28_21
  generalize hmm35 : zu_up m33 a0 16 (m33 a0 21) = m35
  have hIm35 := zi_up hmm35 hIm33 hc0 zb_28_16 (by omega) (by omega)
  have hFm35 := zfr_up hmm35 hFm33 hc0 rfl
  have hNm35 := zfr_up hmm35 hNm33 hc0 rfl
  have hRCRm35 := zR_CR_fr (zdis_fr (zfr_up hmm35 (zfr_rf [(28, 17)] _) hc0 rfl) rfl) hRCRm33
  have hRKNm35 := zR_KN_fr (zdis_fr (zfr_up hmm35 (zfr_rf [(28, 17)] _) hc0 rfl) rfl) hRKNm33
  have hRLRm35 := zR_LR_fr (zdis_fr (zfr_up hmm35 (zfr_rf [(28, 17)] _) hc0 rfl) rfl) hRLRm33
  refine zw_bd (zw_mono (zk_32_103 n hIm35 zq_194 ⟨by decide, by decide⟩) (fun v37 m36 hqm36 => ?_))
  obtain ⟨hIm36, hfm36, hvm36⟩ := hqm36
  have hFm36 := zfr_tr hFm35 hfm36 rfl
  have hNm36 := zfr_tr hNm35 hfm36 rfl
  have hRCRm36 := zR_CR_fr (zdis_fr hfm36 rfl) hRCRm35
  have hRKNm36 := zR_KN_fr (zdis_fr hfm36 rfl) hRKNm35
  have hRLRm36 := zR_LR_fr (zdis_fr hfm36 rfl) hRLRm35
  refine zw_bd (zw_mono (zk_32_104 n hIm36 zq_195 ⟨by decide, by decide⟩) (fun v39 m38 hqm38 => ?_))
  obtain ⟨hIm38, hfm38, hvm38⟩ := hqm38
  have hFm38 := zfr_tr hFm36 hfm38 rfl
  have hNm38 := zfr_tr hNm36 hfm38 rfl
  have hRCRm38 := zR_CR_fr (zdis_fr hfm38 rfl) hRCRm36
  have hRKNm38 := zR_KN_fr (zdis_fr hfm38 rfl) hRKNm36
  have hRLRm38 := zR_LR_fr (zdis_fr hfm38 rfl) hRLRm36
  refine zw_bd (zw_mono (zk_32_106 n hIm38 zq_197 ⟨by decide, by decide⟩) (fun v41 m40 hqm40 => ?_))
  obtain ⟨hIm40, hfm40, hvm40⟩ := hqm40
  have hFm40 := zfr_tr hFm38 hfm40 rfl
  have hNm40 := zfr_tr hNm38 hfm40 rfl
  have hRCRm40 := zR_CR_fr (zdis_fr hfm40 rfl) hRCRm38
  have hRKNm40 := zR_KN_fr (zdis_fr hfm40 rfl) hRKNm38
  have hRLRm40 := zR_LR_fr (zdis_fr hfm40 rfl) hRLRm38
  refine zw_bd (zw_mono (zk_32_107 n hIm40 zq_198 ⟨by decide, by decide⟩) (fun v43 m42 hqm42 => ?_))
  obtain ⟨hIm42, hfm42, hvm42⟩ := hqm42
  have hFm42 := zfr_tr hFm40 hfm42 rfl
  have hNm42 := zfr_tr hNm40 hfm42 rfl
  have hRCRm42 := zR_CR_fr (zdis_fr hfm42 rfl) hRCRm40
  have hRKNm42 := zR_KN_fr (zdis_fr hfm42 rfl) hRKNm40
  have hRLRm42 := zR_LR_fr (zdis_fr hfm42 rfl) hRLRm40
  refine zw_bd (zw_mono (zk_32_108 n hIm42 zq_199 ⟨by decide, by decide⟩) (fun v45 m44 hqm44 => ?_))
  obtain ⟨hIm44, hfm44, hvm44⟩ := hqm44
  have hFm44 := zfr_tr hFm42 hfm44 rfl
  have hNm44 := zfr_tr hNm42 hfm44 rfl
  have hRCRm44 := zR_CR_fr (zdis_fr hfm44 rfl) hRCRm42
  have hRKNm44 := zR_KN_fr (zdis_fr hfm44 rfl) hRKNm42
  have hRLRm44 := zR_LR_fr (zdis_fr hfm44 rfl) hRLRm42
  refine zw_bd (zw_mono (zk_32_109 n hIm44 zq_200 ⟨by decide, by decide⟩) (fun v47 m46 hqm46 => ?_))
  obtain ⟨hIm46, hfm46, hvm46⟩ := hqm46
  have hFm46 := zfr_tr hFm44 hfm46 rfl
  have hNm46 := zfr_tr hNm44 hfm46 rfl
  have hRCRm46 := zR_CR_fr (zdis_fr hfm46 rfl) hRCRm44
  have hRKNm46 := zR_KN_fr (zdis_fr hfm46 rfl) hRKNm44
  have hRLRm46 := zR_LR_fr (zdis_fr hfm46 rfl) hRLRm44
  refine zw_bd (zw_mono (zk_32_110 n hIm46 zq_201 ⟨by decide, by decide⟩) (fun v49 m48 hqm48 => ?_))
  obtain ⟨hIm48, hfm48, hvm48⟩ := hqm48
  have hFm48 := zfr_tr hFm46 hfm48 rfl
  have hNm48 := zfr_tr hNm46 hfm48 rfl
  have hRKNm48 := zR_KN_fr (zdis_fr hfm48 rfl) hRKNm46
  have hRLRm48 := zR_LR_fr (zdis_fr hfm48 rfl) hRLRm46
  have r50 : 1 ≤ (m46 a0 17) ∧ (m46 a0 17) ≤ 8 := zi_rd hIm46 hc0 zb_28_17
  have e51 : (m46 a0 17) = (m0 a0 17) := (Eq.trans (zfr_ap hfm46 hc0 rfl) (Eq.trans (zfr_ap hfm44 hc0 rfl) (Eq.trans (zfr_ap hfm42 hc0 rfl) (Eq.trans (zfr_ap hfm40 hc0 rfl) (Eq.trans (zfr_ap hfm38 hc0 rfl) (Eq.trans (zfr_ap hfm36 hc0 rfl) (Eq.trans (zs_ne hmm35 (Or.inr (by decide))) (Eq.trans (zs_ne hmm33 (Or.inr (by decide))) (Eq.trans (zs_ne hmm31 (Or.inr (by decide))) (Eq.trans (zs_ne hmm29 (Or.inr (by decide))) (zs_ne hmm27 (Or.inr (by decide)))))))))))))
  have r52 : 1 ≤ (m46 a0 18) ∧ (m46 a0 18) ≤ 6 := zi_rd hIm46 hc0 zb_28_18
  have e53 : (m46 a0 18) = (m27 a0 18) := (Eq.trans (zfr_ap hfm46 hc0 rfl) (Eq.trans (zfr_ap hfm44 hc0 rfl) (Eq.trans (zfr_ap hfm42 hc0 rfl) (Eq.trans (zfr_ap hfm40 hc0 rfl) (Eq.trans (zfr_ap hfm38 hc0 rfl) (Eq.trans (zfr_ap hfm36 hc0 rfl) (Eq.trans (zs_ne hmm35 (Or.inr (by decide))) (Eq.trans (zs_ne hmm33 (Or.inr (by decide))) (Eq.trans (zs_ne hmm31 (Or.inr (by decide))) (zs_ne hmm29 (Or.inr (by decide))))))))))))
  have r54 : 0 ≤ (m46 a0 20) ∧ (m46 a0 20) ≤ 4 := zi_rd hIm46 hc0 zb_28_20
  have e55 : (m46 a0 20) = (m31 a0 20) := (Eq.trans (zfr_ap hfm46 hc0 rfl) (Eq.trans (zfr_ap hfm44 hc0 rfl) (Eq.trans (zfr_ap hfm42 hc0 rfl) (Eq.trans (zfr_ap hfm40 hc0 rfl) (Eq.trans (zfr_ap hfm38 hc0 rfl) (Eq.trans (zfr_ap hfm36 hc0 rfl) (Eq.trans (zs_ne hmm35 (Or.inr (by decide))) (zs_ne hmm33 (Or.inr (by decide))))))))))
  have r56 : 0 ≤ (m46 a0 23) ∧ (m46 a0 23) ≤ 1 := zi_rd hIm46 hc0 zb_28_23
  have r57 : 1 ≤ (m48 a0 12) ∧ (m48 a0 12) ≤ 8 := zi_rd hIm48 hc0 zb_28_12
  have e58 : (m48 a0 12) = (m0 a0 17) := (Eq.trans (zfr_ap hfm48 hc0 rfl) (Eq.trans (zfr_ap hfm46 hc0 rfl) (Eq.trans (zfr_ap hfm44 hc0 rfl) (Eq.trans (zfr_ap hfm42 hc0 rfl) (Eq.trans (zfr_ap hfm40 hc0 rfl) (Eq.trans (zfr_ap hfm38 hc0 rfl) (Eq.trans (zfr_ap hfm36 hc0 rfl) (Eq.trans (zs_ne hmm35 (Or.inr (by decide))) (Eq.trans (zs_ne hmm33 (Or.inr (by decide))) (Eq.trans (zs_ne hmm31 (Or.inr (by decide))) (Eq.trans (zs_ne hmm29 (Or.inr (by decide))) (zs_eq hmm27))))))))))))
  have r59 : 1 ≤ (m48 a0 13) ∧ (m48 a0 13) ≤ 6 := zi_rd hIm48 hc0 zb_28_13
  have e60 : (m48 a0 13) = (m27 a0 18) := (Eq.trans (zfr_ap hfm48 hc0 rfl) (Eq.trans (zfr_ap hfm46 hc0 rfl) (Eq.trans (zfr_ap hfm44 hc0 rfl) (Eq.trans (zfr_ap hfm42 hc0 rfl) (Eq.trans (zfr_ap hfm40 hc0 rfl) (Eq.trans (zfr_ap hfm38 hc0 rfl) (Eq.trans (zfr_ap hfm36 hc0 rfl) (Eq.trans (zs_ne hmm35 (Or.inr (by decide))) (Eq.trans (zs_ne hmm33 (Or.inr (by decide))) (Eq.trans (zs_ne hmm31 (Or.inr (by decide))) (zs_eq hmm29)))))))))))
  have r61 : 0 ≤ (m48 a0 15) ∧ (m48 a0 15) ≤ 4 := zi_rd hIm48 hc0 zb_28_15
  have e62 : (m48 a0 15) = (m31 a0 20) := (Eq.trans (zfr_ap hfm48 hc0 rfl) (Eq.trans (zfr_ap hfm46 hc0 rfl) (Eq.trans (zfr_ap hfm44 hc0 rfl) (Eq.trans (zfr_ap hfm42 hc0 rfl) (Eq.trans (zfr_ap hfm40 hc0 rfl) (Eq.trans (zfr_ap hfm38 hc0 rfl) (Eq.trans (zfr_ap hfm36 hc0 rfl) (Eq.trans (zs_ne hmm35 (Or.inr (by decide))) (zs_eq hmm33)))))))))
  have r63 : 1 ≤ (m48 a0 17) ∧ (m48 a0 17) ≤ 8 := zi_rd hIm48 hc0 zb_28_17
  have e64 : (m48 a0 17) = (m46 a0 17) := (zfr_ap hfm48 hc0 rfl)
  have r65 : 1 ≤ (m48 a0 18) ∧ (m48 a0 18) ≤ 6 := zi_rd hIm48 hc0 zb_28_18
  have e66 : (m48 a0 18) = (m46 a0 18) := (zfr_ap hfm48 hc0 rfl)
  have r67 : 0 ≤ (m48 a0 20) ∧ (m48 a0 20) ≤ 4 := zi_rd hIm48 hc0 zb_28_20
  have e68 : (m48 a0 20) = (m46 a0 20) := (zfr_ap hfm48 hc0 rfl)
  have r69 : 0 ≤ (m48 a0 23) ∧ (m48 a0 23) ≤ 1 := zi_rd hIm48 hc0 zb_28_23
  have e70 : (m48 a0 23) = (m46 a0 23) := (zfr_ap hfm48 hc0 rfl)
  have hRC0m48 := zC0_keep (m2 := m48) (zone_190 hc0) (hvm48.2) hRCRm46 (by omega) (by omega) (by omega)
  have hRCRm48 := zCR_keep (m2 := m48) (zone_190 hc0) (hvm48.2) hRCRm46 (by omega) (by omega) (by omega) (by omega)
  refine zw_bd (zw_mono (zk_32_111 n hIm48 zq_202 ⟨by decide, by decide⟩) (fun v72 m71 hqm71 => ?_))
  obtain ⟨hIm71, hfm71, hvm71⟩ := hqm71
  have hFm71 := zfr_tr hFm48 hfm71 rfl
  have hNm71 := zfr_tr hNm48 hfm71 rfl
  have hRC0m71 := zR_C0_fr (zdis_fr hfm71 rfl) hRC0m48
  have hRCRm71 := zR_CR_fr (zdis_fr hfm71 rfl) hRCRm48
  have hRKNm71 := zR_KN_fr (zdis_fr hfm71 rfl) hRKNm48
  have hRLRm71 := zR_LR_fr (zdis_fr hfm71 rfl) hRLRm48
  refine zw_bd (zw_mono (zk_32_112 n hIm71 zq_203 ⟨by decide, by decide⟩) (fun v74 m73 hqm73 => ?_))
  obtain ⟨hIm73, hfm73, hvm73⟩ := hqm73
  have hFm73 := zfr_tr hFm71 hfm73 rfl
  have hNm73 := zfr_tr hNm71 hfm73 rfl
  have hRC0m73 := zR_C0_fr (zdis_fr hfm73 rfl) hRC0m71
  have hRCRm73 := zR_CR_fr (zdis_fr hfm73 rfl) hRCRm71
  have hRKNm73 := zR_KN_fr (zdis_fr hfm73 rfl) hRKNm71
  have hRLRm73 := zR_LR_fr (zdis_fr hfm73 rfl) hRLRm71
  refine zw_bd (zw_mono (zk_32_113 n hIm73 zq_204 ⟨by decide, by decide⟩) (fun v76 m75 hqm75 => ?_))
  obtain ⟨hIm75, hfm75, hvm75⟩ := hqm75
  have hFm75 := zfr_tr hFm73 hfm75 rfl
  have hNm75 := zfr_tr hNm73 hfm75 rfl
  have hRC0m75 := zR_C0_fr (zdis_fr hfm75 rfl) hRC0m73
  have hRCRm75 := zR_CR_fr (zdis_fr hfm75 rfl) hRCRm73
  have hRKNm75 := zR_KN_fr (zdis_fr hfm75 rfl) hRKNm73
  have hRLRm75 := zR_LR_fr (zdis_fr hfm75 rfl) hRLRm73
  have r77 : (-2147483648) ≤ (m75 a0 4) ∧ (m75 a0 4) ≤ 2147483647 := zi_rd hIm75 hc0 zb_28_4
  have e78 : (m75 a0 4) = (m0 a0 4) := (Eq.trans (zfr_ap hfm75 hc0 rfl) (Eq.trans (zfr_ap hfm73 hc0 rfl) (Eq.trans (zfr_ap hfm71 hc0 rfl) (Eq.trans (zfr_ap hfm48 hc0 rfl) (Eq.trans (zfr_ap hfm46 hc0 rfl) (Eq.trans (zfr_ap hfm44 hc0 rfl) (Eq.trans (zfr_ap hfm42 hc0 rfl) (Eq.trans (zfr_ap hfm40 hc0 rfl) (Eq.trans (zfr_ap hfm38 hc0 rfl) (Eq.trans (zfr_ap hfm36 hc0 rfl) (Eq.trans (zs_ne hmm35 (Or.inr (by decide))) (Eq.trans (zs_ne hmm33 (Or.inr (by decide))) (Eq.trans (zs_ne hmm31 (Or.inr (by decide))) (Eq.trans (zs_ne hmm29 (Or.inr (by decide))) (zs_ne hmm27 (Or.inr (by decide)))))))))))))))))
  have hM : (4 - 0) * 1 + 0 < ((5 : Nat) : Int) := by omega
  refine zw_mono ((zl_31q n (m0 := m0) hc0 hxp0 5) 0 m75 hIm75 hFm75 ⟨by omega, by omega⟩ (fun k h0 h1 => by omega) (by omega) hRC0m75 hRCRm75 hRKNm75 hRLRm75 hM) (fun v m hs => ?_)
  obtain ⟨g1, g2, g3, g4, g5, g6, g7, g8, g9, g10, g11, k1, k2, k3, k4, k5⟩ := hs
  refine ⟨g1, g2, g3, g4, g5, g6, g7, g8, g9, g10, g11, fun q q0 q1 => ?_, fun j j0 j1 => ?_, fun c c0 c1 => (k3 c).trans (Eq.trans (zfr_ap (p := c) hfm75 zq_195 rfl) (Eq.trans (zfr_ap (p := c) hfm73 zq_195 rfl) (Eq.trans (zfr_ap (p := c) hfm71 zq_195 rfl) (Eq.trans (zfr_ap (p := c) hfm48 zq_195 rfl) (Eq.trans (zfr_ap (p := c) hfm46 zq_195 rfl) (Eq.trans (zfr_ap (p := c) hfm44 zq_195 rfl) (Eq.trans (zfr_ap (p := c) hfm42 zq_195 rfl) (Eq.trans (zfr_ap (p := c) hfm40 zq_195 rfl) (Eq.trans (hvm38.2.1 c c0 c1) (Eq.trans (zfr_ap (p := 48 + c) hfm36 zq_195 rfl) (Eq.trans (zs_ne hmm35 (Or.inl (zc_ne zq_195 hc0 (by decide)))) (Eq.trans (zs_ne hmm33 (Or.inl (zc_ne zq_195 hc0 (by decide)))) (Eq.trans (zs_ne hmm31 (Or.inl (zc_ne zq_195 hc0 (by decide)))) (Eq.trans (zs_ne hmm29 (Or.inl (zc_ne zq_195 hc0 (by decide)))) (zs_ne hmm27 (Or.inl (zc_ne zq_195 hc0 (by decide)))))))))))))))))), k4.trans (Eq.trans (zfr_ap (p := 12) hfm75 hc0 rfl) (Eq.trans (zfr_ap (p := 12) hfm73 hc0 rfl) (Eq.trans (zfr_ap (p := 12) hfm71 hc0 rfl) (Eq.trans (zfr_ap (p := 12) hfm48 hc0 rfl) (Eq.trans (zfr_ap (p := 12) hfm46 hc0 rfl) (Eq.trans (zfr_ap (p := 12) hfm44 hc0 rfl) (Eq.trans (zfr_ap (p := 12) hfm42 hc0 rfl) (Eq.trans (zfr_ap (p := 12) hfm40 hc0 rfl) (Eq.trans (zfr_ap (p := 12) hfm38 hc0 rfl) (Eq.trans (zfr_ap (p := 12) hfm36 hc0 rfl) (Eq.trans (zs_ne hmm35 (Or.inr (by decide))) (Eq.trans (zs_ne hmm33 (Or.inr (by decide))) (Eq.trans (zs_ne hmm31 (Or.inr (by decide))) (Eq.trans (zs_ne hmm29 (Or.inr (by decide))) (zs_eq hmm27))))))))))))))), k5.trans (Eq.trans (zfr_ap (p := 13) hfm75 hc0 rfl) (Eq.trans (zfr_ap (p := 13) hfm73 hc0 rfl) (Eq.trans (zfr_ap (p := 13) hfm71 hc0 rfl) (Eq.trans (zfr_ap (p := 13) hfm48 hc0 rfl) (Eq.trans (zfr_ap (p := 13) hfm46 hc0 rfl) (Eq.trans (zfr_ap (p := 13) hfm44 hc0 rfl) (Eq.trans (zfr_ap (p := 13) hfm42 hc0 rfl) (Eq.trans (zfr_ap (p := 13) hfm40 hc0 rfl) (Eq.trans (zfr_ap (p := 13) hfm38 hc0 rfl) (Eq.trans (zfr_ap (p := 13) hfm36 hc0 rfl) (Eq.trans (zs_ne hmm35 (Or.inr (by decide))) (Eq.trans (zs_ne hmm33 (Or.inr (by decide))) (Eq.trans (zs_ne hmm31 (Or.inr (by decide))) (Eq.trans (zs_eq hmm29) (zs_ne hmm27 (Or.inr (by decide)))))))))))))))))⟩
  · obtain ⟨a, b, c⟩ := k1 q q0 q1
    exact ⟨a.trans (zfr_ap hNm75 zq_205 rfl), b.trans (zfr_ap hNm75 zq_206 rfl), c.trans (zfr_ap hNm75 zq_207 rfl)⟩
  · obtain ⟨a, b, c⟩ := k2 j j0 j1
    exact ⟨a.trans (zfr_ap hNm75 zq_208 rfl), b.trans (zfr_ap hNm75 zq_209 rfl), c.trans (zfr_ap hNm75 zq_210 rfl)⟩

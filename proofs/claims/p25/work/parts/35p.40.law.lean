/-! readLaw and lawLine -/
def zPE (m t : zu_m) (v : Int) (m' : zu_m) (w : Int) (t' : zu_m) : Prop := (v = 0 ∧ w = 0 ∧ zFLT m' t') ∨ (v = 1 ∧ w = 1 ∧ zST m' t' ∧ zSYN m' t' ∧ (t' 190 8 = 4 ∧ t' 190 9 = 59) ∧ zRD m' t' ∧ zKF m t m' t')
theorem zPE_0 {m t m' t' : zu_m} (h : zFLT m' t') : zPE m t 0 m' 0 t' := Or.inl ⟨rfl, rfl, h⟩
def zWL : List (Nat × Nat) := [(3, 8), (5, 6), (5, 7), (9, 4), (9, 5), (9, 6), (9, 7), (10, 4), (10, 5), (10, 7), (10, 8), (33, 0), (34, 0), (35, 0), (36, 0), (47, 0), (48, 0)]
def zVL : List (Nat × Nat) := [(28, 5), (28, 6), (28, 8), (28, 9), (28, 10), (28, 11), (28, 22), (28, 46), (28, 47), (28, 48), (28, 49), (28, 50), (28, 51), (114, 0), (115, 0), (116, 0), (117, 0), (118, 0), (119, 0), (120, 0), (121, 0)]
theorem zRD_law {m t m' t' : zu_m} {c : Int} (hD : zRD m t) (hf : zfr zWL m m') (hft : zfr zVL t t') (h10 : m' 10 5 = t' 190 48) (hc : 0 ≤ m' 13 c) (hc' : ∀ i, i ≠ c → m' 13 i = m 13 i) (hl : t' 205 (4 + c) = 1) (hl' : ∀ i, i ≠ 4 + c → t' 205 i = t 205 i) : zRD m' t' := by
  obtain ⟨dw, dO, dk, de, dc, ds, dl⟩ := hD
  obtain ⟨w1, w2, w3, w4, w5, w6, w7⟩ := dw
  refine ⟨⟨?_, ?_, ?_, ?_, ?_, ?_, h10⟩, zDo_fr dO hf hft rfl rfl, zDk_fr dk hf hft rfl rfl, zDe_fr de hf hft rfl rfl, zDc_fr dc hf hft rfl rfl, zDs_fr ds hf hft rfl rfl, fun k k0 k1 => ?_⟩
  · exact (zfr_ap hf zq_6 rfl).trans (w1.trans (zfr_ap hft zq_190 rfl).symm)
  · exact (zfr_ap hf zq_6 rfl).trans (w2.trans (zfr_ap hft zq_190 rfl).symm)
  · exact (zfr_ap hf zq_5 rfl).trans (w3.trans (zfr_ap hft zq_190 rfl).symm)
  · exact (zfr_ap hf zq_5 rfl).trans (w4.trans (zfr_ap hft zq_190 rfl).symm)
  · exact (zfr_ap hf zq_19 rfl).trans (w5.trans (zfr_ap hft zq_190 rfl).symm)
  · exact (zfr_ap hf zq_19 rfl).trans (w6.trans (zfr_ap hft zq_190 rfl).symm)
  · by_cases e : k = c
    · rw [e, hl]
      exact ⟨fun q => absurd hc (Int.not_le.mpr q), fun q => absurd q (by decide)⟩
    · rw [hc' k e, hl' (4 + k) (fun q => e (by omega))]
      exact dl k k0 k1
theorem zp_law (n : Nat) {m t : zu_m} (h : zST m t) (hS : zSYN m t) (hD : zRD m t) (hX : zR_BX m) (hBN : zR_BN m) (hK10 : zR_K10 m) (hKN : zR_KN t) (h21 : t 190 21 = t 190 48) : zw (zu_call (zt_T n) 270 [(7, 5)] m) (fun v m' => zw (zu_call (zt_T n) 103 [(40, 190)] t) (fun w t' => zPE m t v m' w t')) := by
  have hD0 := hD
  have w7 : m 10 5 = t 190 48 := hD.1.2.2.2.2.2.2
  have dl := hD.2.2.2.2.2.2
  refine zw_eq (zu_call_at (zt_T n) (zm_270 n) (zdp_270 n) _ _ _ _ _ rfl (zr_270_0 n _ _ 5 m)) ?_
  rw [zu_call_at (zt_T n) (zm_103 n) (zdp_103 n) _ _ _ _ _ rfl (zr_103_0 n _ _ 190 t)]
  refine zw_swap ?_
  refine zw_bd (zw_mono (zp_tkn n h hS.1) (fun _ t1 hs => ?_))
  obtain ⟨q1, q2, q3⟩ := hs
  refine zw_swap ?_
  rw [zu_call_at (zt_T n) (zm_261 n) (zdp_261 n) _ _ _ _ _ rfl (zr_261_0 n _ _ 5 19 4 m), zu_bd2]
  refine zw_bd (zw_mono (zp_adv n q1 q3) (fun _ m1 hs => ?_))
  obtain ⟨hST1, hf1, hS1, hle⟩ := hs
  have hK := hS1.2.2.1
  unfold zKV at hK
  rw [zc_279 n m1 (zu_w32_id (by decide) (by decide)), zu_bds]
  by_cases hk : m1 45 4 = 1 ∧ 19 ≤ m1 45 5 ∧ m1 45 5 < 19 + 4
  · have kk : t1 190 8 = 1 ∧ t1 190 9 = m1 45 5 := by clear hX hD hD0 dl; omega
    obtain ⟨c, hc⟩ : ∃ c, c = m1 45 5 - 19 := ⟨_, rfl⟩
    have c0 : 0 ≤ c ∧ c ≤ 3 := by clear hX hD hD0 dl hK; omega
    have e5 : m1 45 5 = 19 + c := by clear hX hD hD0 dl hK; omega
    have w1 : zu_w32 (m1 45 5 - 19) = c := by rw [zu_w32_id (by clear hX hD hD0 dl hK; omega) (by clear hX hD hD0 dl hK; omega)]; exact hc.symm
    have w2 : zu_w32 (zu_w32 (4 + t1 190 9) - 19) = 4 + c := by
      rw [kk.2, e5, zu_w32_id (z := 4 + (19 + c)) (by clear hX hD hD0 dl hK; omega) (by clear hX hD hD0 dl hK; omega), zu_w32_id (by clear hX hD hD0 dl hK; omega) (by clear hX hD hD0 dl hK; omega)]
      clear hX hD hD0 dl hK
      omega
    clear hK
    rw [if_pos hk, if_pos (show (1 : Int) ≠ 0 by decide), zu_b1, zu_bds, if_pos (show (1 : Int) ≠ 0 by decide), w1, w2]
    rw [if_neg (show ¬ t1 190 8 ≠ 1 from fun q => q kk.1), if_neg (show ¬ t1 190 9 < 19 by rw [kk.2]; exact Int.not_lt.mpr hk.2.1), if_pos (show t1 190 9 ≤ 22 by rw [kk.2]; exact Int.le_of_lt_add_one hk.2.2), if_pos (show 0 ≤ 4 + c ∧ 4 + c < 8 by omega)]
    generalize hm2 : zu_up m1 5 7 c = m2
    have hI2 := zi_up hm2 hST1.1 zq_5 zb_3_7 (by clear hX hD hD0 dl; omega) (by clear hX hD hD0 dl; omega)
    have hf2 : zfr [(3, 8)] m1 m2 := zfr_up hm2 (zfr_rf _ _) zq_5 rfl
    have e7 : m2 5 7 = c := zs_eq hm2
    have e3 : m2 45 3 = m1 45 3 := zs_ne hm2 (Or.inl (by decide))
    have e13 : ∀ i, m2 13 i = m 13 i := fun i => (zfr_ap hf2 zq_13 rfl).trans (zfr_ap hf1 zq_13 rfl)
    have f205 : ∀ i, t1 205 i = t 205 i := fun i => zfr_ap q2 zq_205 rfl
    have hiff : (m2 ((6 + 4) + 3) c < 0 ↔ t1 205 (4 + c) = 0) := by
      rw [f205]
      show m2 13 c < 0 ↔ _
      rw [e13]
      exact dl c c0.1 (Int.lt_of_le_of_lt c0.2 (by decide))
    rw [e7, if_pos (show 0 ≤ c ∧ c < 4 from ⟨c0.1, Int.lt_of_le_of_lt c0.2 (by decide)⟩)]
    by_cases hn : t1 205 (4 + c) = 0
    · rw [if_pos (hiff.mpr hn), if_pos hn, zu_b1, if_pos (show 0 ≤ 4 + c ∧ 4 + c < 8 by omega)]
      generalize ht2 : zu_up t1 205 (4 + c) 1 = t2
      have hJ2 := zi_up ht2 q1.2.1 zq_205 (zb_114 _) (by decide) (by decide)
      have hft2 : zfr [(114, 0)] t1 t2 := zfr_up ht2 (zfr_rf _ _) zq_205 rfl
      have hST2 : zST m2 t2 := zST_r (zST_l hST1 hI2 hf2 rfl) hJ2 hft2 rfl
      have e37 : m2 45 3 = t2 190 7 := e3.trans (hS1.1.trans (zfr_ap hft2 zq_190 rfl).symm)
      refine zw_swap ?_
      refine zw_bd (zw_mono (zw_and (zp_tkn n hST2 e37) (zk_89 n hJ2 zq_190 hST2.2.2.1 hST2.2.2.2.1)) (fun _ t3 hs => ?_))
      obtain ⟨⟨g1, g2, g3⟩, -, -, -, hTR3, -⟩ := hs
      rw [if_pos (show 0 ≤ 4 + c ∧ 4 + c < 8 by omega)]
      generalize ht4 : zu_up t3 206 (4 + c) (t3 190 21) = t4
      have r21 := zi_rd g1.2.1 zq_190 zb_28_21
      have hJ4 := zi_up ht4 g1.2.1 zq_206 (zb_115 _) r21.1 r21.2
      have hft4 : zfr [(115, 0)] t3 t4 := zfr_up ht4 (zfr_rf _ _) zq_206 rfl
      have hST4 : zST m2 t4 := zST_r g1 hJ4 hft4 rfl
      have hLG4 : zLAG m2 t4 := zLAG_r g3 hft4 rfl
      have F2 : zfr zWL m m2 := zfr_tr (zfr_tr (zfr_rf zWL m) hf1 rfl) hf2 rfl
      have F4 : zfr zVL t t4 := zfr_tr (zfr_tr (zfr_tr (zfr_tr (zfr_rf zVL t) q2 rfl) hft2 rfl) g2 rfl) hft4 rfl
      have k21 : t4 190 21 = t 190 21 := ((zfr_ap hft4 zq_190 rfl).trans (zfr_ap g2 zq_190 rfl)).trans ((zfr_ap hft2 zq_190 rfl).trans (zfr_ap q2 zq_190 rfl))
      have k48 : t4 190 48 = t 190 48 := ((zfr_ap hft4 zq_190 rfl).trans (zfr_ap g2 zq_190 rfl)).trans ((zfr_ap hft2 zq_190 rfl).trans (zfr_ap q2 zq_190 rfl))
      have k10 : m2 10 5 = m 10 5 := (zfr_ap hf2 zq_10 rfl).trans (zfr_ap hf1 zq_10 rfl)
      have k205 : ∀ i, t4 205 i = t2 205 i := fun i => (zfr_ap hft4 zq_205 rfl).trans (zfr_ap g2 zq_205 rfl)
      have hKN4 : zR_KN t4 := zR_KN_fr (zdis_fr hft4 rfl) (zR_KN_fr (zdis_fr g2 rfl) (zR_KN_fr (zdis_fr hft2 rfl) (zR_KN_fr (zdis_fr q2 rfl) hKN)))
      have hX2 : zR_BX m2 := zR_BX_fr hf2 rfl (zR_BX_fr hf1 rfl hX)
      have hBN2 : zR_BN m2 := zR_BN_fr (zdis_fr hf2 rfl) (zR_BN_fr (zdis_fr hf1 rfl) hBN)
      have hK2 : zR_K10 m2 := zR_K10_fr (zdis_fr hf2 rfl) (zR_K10_fr (zdis_fr hf1 rfl) hK10)
      refine zw_swap ?_
      refine zw_pair (zz_sum n c0 hST4 hLG4 hX2 hBN2 hK2 hKN4 (zR_TR_fr (zdis_fr hft4 rfl) hTR3) (by rw [k21, k48]; exact h21) (by rw [k10, k48]; exact w7)) (fun v m' w t' hp => ?_)
      obtain ⟨hI', hf', hft', hQ⟩ := hp
      rw [if_pos (show 0 ≤ 4 + c ∧ 4 + c < 8 by omega)]
      generalize ht5 : zu_up t' 207 (4 + c) (t' 190 21) = t5
      have hft5 : zfr [(116, 0)] t' t5 := zfr_up ht5 (zfr_rf _ _) zq_207 rfl
      have e5' : ∀ i, t5 190 i = t' 190 i := fun i => zfr_ap hft5 zq_190 rfl
      rcases hQ with ⟨p1, p2, p3, p4⟩ | ⟨p1, p2, p3, p4, p5, p6, p7, p8, p9⟩
      · rw [if_neg p1, zc_257, zu_bds, if_pos rfl, zu_b0, p2, zu_b0]
        refine zw_some (zw_some (zPE_0 ⟨?_, ?_, ?_⟩))
        · rw [e5', p3]; unfold zFL; simp [zu_up_app]
        · unfold zFL; simp [zu_up_app]; exact p1
        · rw [e5', ← p4]; unfold zFL; simp [zu_up_app]
      · rw [if_pos p1, zu_b1, p2, zu_b1]
        have r21' := zi_rd p3.2.1 zq_190 zb_28_21
        have hJ5 := zi_up ht5 p3.2.1 zq_207 (zb_116 _) r21'.1 r21'.2
        refine zw_some (zw_some (Or.inr ⟨rfl, rfl, zST_r p3 hJ5 hft5 rfl, zSYN_mv p4 rfl rfl rfl rfl rfl (e5' 7) (e5' 8) (e5' 9) (e5' 10), ⟨(e5' 8).trans p5.1, (e5' 9).trans p5.2⟩, zRD_law (c := c) hD0 (zfr_tr F2 hf' rfl) (zfr_tr (zfr_tr F4 hft' rfl) hft5 rfl) (p6.trans (e5' 48).symm) ?_ (fun i hi => (p8 i hi).trans (e13 i)) ?_ (fun i hi => ?_), ⟨zfr_ap (zfr_tr F2 hf' rfl : zfr zWL m m') zq_5 rfl, zfr_ap (zfr_tr F2 hf' rfl : zfr zWL m m') zq_5 rfl, ((e5' 5).trans p9).trans (((zfr_ap hft4 zq_190 rfl).trans (zfr_ap g2 zq_190 rfl)).trans ((zfr_ap hft2 zq_190 rfl).trans (zfr_ap q2 zq_190 rfl)))⟩⟩))
        · rw [p7]; exact (zi_rd hI2 zq_10 zb_5_6).1
        · exact ((zfr_ap hft5 zq_205 rfl).trans (zfr_ap hft' zq_205 rfl)).trans ((k205 _).trans (zs_eq ht2))
        · exact ((zfr_ap hft5 zq_205 rfl).trans (zfr_ap hft' zq_205 rfl)).trans ((k205 i).trans ((zs_ne ht2 (Or.inr hi)).trans (f205 i)))
    · rw [if_neg (fun q => hn (hiff.mp q)), if_neg hn, zc_257, zu_bds, zu_b0, zc_85, zu_bds, zu_b0]
      exact zw_some (zw_some (zPE_0 (zFLT_of (by decide) ((zfr_ap hf2 zq_45 rfl).trans hS1.2.1))))
  · rw [if_neg hk, if_neg (show ¬ (0 : Int) ≠ 0 by decide), zc_257, zu_bds, zu_b0, zu_bds, if_neg (show ¬ (0 : Int) ≠ 0 by decide), zu_b0, zc_85, zu_bds, zu_b0]
    have hF := zFLT_of (m := m1) (t := t1) (f := 1) (by decide) hS1.2.1
    refine zw_some ?_
    refine zw_ite (fun _ => zw_some (zPE_0 hF)) (fun g1 => ?_)
    refine zw_ite (fun _ => zw_some (zPE_0 hF)) (fun g2 => ?_)
    refine zw_ite (fun g3 => ?_) (fun _ => zw_some (zPE_0 hF))
    exfalso
    clear hX hD hD0 dl
    omega

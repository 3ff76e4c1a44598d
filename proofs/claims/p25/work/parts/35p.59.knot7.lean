/-! law lines and all lines keep what is said of the laws told -/
theorem zlow_tr {a b c : zu_m} (h1 : zlow a b) (h2 : zlow b c) : zlow a c := zlow_go h1 h2
theorem zDN_fr {W V : List (Nat × Nat)} {m m' t t' : zu_m} (h : zDN m t) (hf : zfr W m m') (hft : zfr V t t') (hd : zdis W [(5, 7), (33, 0), (34, 0), (35, 0), (36, 0)] = true) (hd' : zdis V [(28, 22), (115, 0), (116, 0), (117, 0), (118, 0), (119, 0)] = true) : zDN m' t' := by
  have e := zdis_fr hf hd
  have g := zdis_fr hft hd'
  obtain ⟨h1, h2, h3, h4⟩ := h
  have e6 : m' 10 6 = m 10 6 := e 10 6 (by rw [zq_10]; rfl)
  have g21 : t' 190 21 = t 190 21 := g 190 21 (by rw [zq_190]; rfl)
  have e13 : ∀ i, m' 13 i = m 13 i := fun i => e 13 i (by rw [zq_13]; rfl)
  have hl : zlow m m' := ⟨Int.le_of_eq e6.symm, fun i _ => ⟨e 11 i (by rw [zq_11]; rfl), e 12 i (by rw [zq_12]; rfl)⟩⟩
  have ht : zlot t t' := ⟨Int.le_of_eq g21.symm, fun i _ _ => ⟨g 208 i (by rw [zq_208]; rfl), g 209 i (by rw [zq_209]; rfl), g 210 i (by rw [zq_210]; rfl)⟩⟩
  refine ⟨by rw [e6, g21]; exact h1, by rw [e6]; exact h2, by rw [e6]; exact h3, fun L l0 l1 hp => ?_⟩
  rw [e13] at hp
  exact zLW_mv (h4 L l0 l1 hp) hp h1 (e13 L) (e 14 L (by rw [zq_14]; rfl)) (g 206 _ (by rw [zq_206]; rfl)) (g 207 _ (by rw [zq_207]; rfl)) hl ht
theorem zp_lawK (n : Nat) {m t : zu_m} (h : zST m t) (hS : zSYN m t) (hD : zRD m t) (hX : zR_BX m) (hBN : zR_BN m) (hK10 : zR_K10 m) (hKN : zR_KN t) (h21 : t 190 21 = t 190 48) (hN : zDN m t) : zl (zu_call (zt_T n) 270 [(7, 5)] m) (fun v m' => zl (zu_call (zt_T n) 103 [(40, 190)] t) (fun w t' => v = 1 → w = 1 → zDN m' t')) := by
  have w7 : m 10 5 = t 190 48 := hD.1.2.2.2.2.2.2
  refine zl_eq (zu_call_at (zt_T n) (zm_270 n) (zdp_270 n) _ _ _ _ _ rfl (zr_270_0 n _ _ 5 m)) ?_
  rw [zu_call_at (zt_T n) (zm_103 n) (zdp_103 n) _ _ _ _ _ rfl (zr_103_0 n _ _ 190 t)]
  refine zl_swap ?_
  refine zl_bd (zl_mono (zl_of (zp_tkn n h hS.1)) (fun _ t1 hs => ?_))
  obtain ⟨q1, q2, q3⟩ := hs
  refine zl_swap ?_
  rw [zu_call_at (zt_T n) (zm_261 n) (zdp_261 n) _ _ _ _ _ rfl (zr_261_0 n _ _ 5 19 4 m), zu_bd2]
  refine zl_bd (zl_mono (zl_of (zp_adv n q1 q3)) (fun _ m1 hs => ?_))
  obtain ⟨hST1, hf1, hS1, hle⟩ := hs
  have hK := hS1.2.2.1
  unfold zKV at hK
  rw [zc_279 n m1 (zu_w32_id (by decide) (by decide)), zu_bds]
  by_cases hk : m1 45 4 = 1 ∧ 19 ≤ m1 45 5 ∧ m1 45 5 < 19 + 4
  · have kk : t1 190 8 = 1 ∧ t1 190 9 = m1 45 5 := by clear hX hD hN; omega
    obtain ⟨c, hc⟩ : ∃ c, c = m1 45 5 - 19 := ⟨_, rfl⟩
    have c0 : 0 ≤ c ∧ c ≤ 3 := by clear hX hD hN hK; omega
    have e5 : m1 45 5 = 19 + c := by clear hX hD hN hK; omega
    have w1 : zu_w32 (m1 45 5 - 19) = c := by rw [zu_w32_id (by clear hX hD hN hK; omega) (by clear hX hD hN hK; omega)]; exact hc.symm
    have w2 : zu_w32 (zu_w32 (4 + t1 190 9) - 19) = 4 + c := by
      rw [kk.2, e5, zu_w32_id (z := 4 + (19 + c)) (by clear hX hD hN hK; omega) (by clear hX hD hN hK; omega), zu_w32_id (by clear hX hD hN hK; omega) (by clear hX hD hN hK; omega)]
      clear hX hD hN hK
      omega
    clear hK
    rw [if_pos hk, if_pos (show (1 : Int) ≠ 0 by decide), zu_b1, zu_bds, if_pos (show (1 : Int) ≠ 0 by decide), w1, w2]
    rw [if_neg (show ¬ t1 190 8 ≠ 1 from fun q => q kk.1), if_neg (show ¬ t1 190 9 < 19 by rw [kk.2]; exact Int.not_lt.mpr hk.2.1), if_pos (show t1 190 9 ≤ 22 by rw [kk.2]; exact Int.le_of_lt_add_one hk.2.2), if_pos (show 0 ≤ 4 + c ∧ 4 + c < 8 by omega)]
    generalize hm2 : zu_up m1 5 7 c = m2
    have hI2 := zi_up hm2 hST1.1 zq_5 zb_3_7 (by clear hX hD hN; omega) (by clear hX hD hN; omega)
    have hf2 : zfr [(3, 8)] m1 m2 := zfr_up hm2 (zfr_rf _ _) zq_5 rfl
    have e7 : m2 5 7 = c := zs_eq hm2
    have e3 : m2 45 3 = m1 45 3 := zs_ne hm2 (Or.inl (by decide))
    rw [e7, if_pos (show 0 ≤ c ∧ c < 4 from ⟨c0.1, Int.lt_of_le_of_lt c0.2 (by decide)⟩)]
    have nolaw : ∀ (R : Option zu_R), zl (zu_bd (zu_call (zt_T n) 257 [(7, 5), (0, 3)] m2) (fun v32 s32 => (zu_b v32 (some (v32, s32))))) (fun v m' => zl R (fun w t' => v = 1 → w = 1 → zDN m' t')) := fun R => by
      rw [zc_257, zu_bds, zu_b0]
      exact zl_some (fun w t' _ h0 => absurd h0 (by decide))
    refine zl_ite (fun hneg => ?_) (fun _ => nolaw _)
    by_cases hn : t1 205 (4 + c) = 0
    · rw [if_pos hn, zu_b1, if_pos (show 0 ≤ 4 + c ∧ 4 + c < 8 by omega)]
      generalize ht2 : zu_up t1 205 (4 + c) 1 = t2
      have hJ2 := zi_up ht2 q1.2.1 zq_205 (zb_114 _) (by decide) (by decide)
      have hft2 : zfr [(114, 0)] t1 t2 := zfr_up ht2 (zfr_rf _ _) zq_205 rfl
      have hST2 : zST m2 t2 := zST_r (zST_l hST1 hI2 hf2 rfl) hJ2 hft2 rfl
      have e37 : m2 45 3 = t2 190 7 := e3.trans (hS1.1.trans (zfr_ap hft2 zq_190 rfl).symm)
      refine zl_swap ?_
      refine zl_bd (zl_mono (zl_of (zw_and (zp_tkn n hST2 e37) (zk_89 n hJ2 zq_190 hST2.2.2.1 hST2.2.2.2.1))) (fun _ t3 hs => ?_))
      obtain ⟨⟨g1, g2, g3⟩, -, -, -, hTR3, -⟩ := hs
      rw [if_pos (show 0 ≤ 4 + c ∧ 4 + c < 8 by omega)]
      generalize ht4 : zu_up t3 206 (4 + c) (t3 190 21) = t4
      have r21 := zi_rd g1.2.1 zq_190 zb_28_21
      have hJ4 := zi_up ht4 g1.2.1 zq_206 (zb_115 _) r21.1 r21.2
      have hft4 : zfr [(115, 0)] t3 t4 := zfr_up ht4 (zfr_rf _ _) zq_206 rfl
      have hST4 : zST m2 t4 := zST_r g1 hJ4 hft4 rfl
      have hLG4 : zLAG m2 t4 := zLAG_r g3 hft4 rfl
      have k21 : t4 190 21 = t 190 21 := ((zfr_ap hft4 zq_190 rfl).trans (zfr_ap g2 zq_190 rfl)).trans ((zfr_ap hft2 zq_190 rfl).trans (zfr_ap q2 zq_190 rfl))
      have k21' : t3 190 21 = t 190 21 := (zfr_ap g2 zq_190 rfl).trans ((zfr_ap hft2 zq_190 rfl).trans (zfr_ap q2 zq_190 rfl))
      have k48 : t4 190 48 = t 190 48 := ((zfr_ap hft4 zq_190 rfl).trans (zfr_ap g2 zq_190 rfl)).trans ((zfr_ap hft2 zq_190 rfl).trans (zfr_ap q2 zq_190 rfl))
      have k10 : m2 10 5 = m 10 5 := (zfr_ap hf2 zq_10 rfl).trans (zfr_ap hf1 zq_10 rfl)
      have k6 : m2 10 6 = m 10 6 := (zfr_ap hf2 zq_10 rfl).trans (zfr_ap hf1 zq_10 rfl)
      have F2 : zfr [(3, 8), (9, 4), (9, 5), (9, 6), (9, 7)] m m2 := zfr_tr (zfr_tr (zfr_rf _ m) hf1 rfl) hf2 rfl
      have F3 : zfr [(28, 8), (28, 9), (28, 10), (28, 11), (114, 0)] t t3 := zfr_tr (zfr_tr (zfr_tr (zfr_rf _ t) q2 rfl) hft2 rfl) g2 rfl
      have F4 : zfr [(28, 8), (28, 9), (28, 10), (28, 11), (114, 0), (115, 0)] t t4 := zfr_tr (zfr_tr (zfr_rf _ t) F3 rfl) hft4 rfl
      have hKN4 : zR_KN t4 := zR_KN_fr (zdis_fr F4 rfl) hKN
      have hX2 : zR_BX m2 := zR_BX_fr F2 rfl hX
      have hBN2 : zR_BN m2 := zR_BN_fr (zdis_fr F2 rfl) hBN
      have hK2 : zR_K10 m2 := zR_K10_fr (zdis_fr F2 rfl) hK10
      have hTR4 := zR_TR_fr (zdis_fr hft4 rfl) hTR3
      refine zl_swap ?_
      refine zl_pair (zl_bothN (zl_ofN (zz_sum n c0 hST4 hLG4 hX2 hBN2 hK2 hKN4 hTR4 (by rw [k21, k48]; exact h21) (by rw [k10, k48]; exact w7))) (zz_sumK n c0 hST4 hLG4 hX2 hBN2 hK2 hKN4 hTR4 (by rw [k21, k48]; exact h21) (by rw [k10, k48]; exact w7) (by rw [k6, k21]; exact hN.1))) (fun v m' w t' hp => ?_)
      obtain ⟨⟨hI', hf', hft', hQ⟩, hKK⟩ := hp
      rw [if_pos (show 0 ≤ 4 + c ∧ 4 + c < 8 by omega)]
      rcases hQ with ⟨p1, p2, p3, p4⟩ | ⟨p1, p2, p3, p4, p5, p6, p7, p8, p9⟩
      · rw [if_neg p1, zc_257, zu_bds, if_pos rfl, zu_b0]
        exact zl_some (fun w t' _ h0 => absurd h0 (by decide))
      · obtain ⟨x1, x2, x3, x4⟩ := hKK p1 p2
        rw [if_pos p1, zu_b1, p2, zu_b1]
        generalize ht5 : zu_up t' 207 (4 + c) (t' 190 21) = t5
        have hft5 : zfr [(116, 0)] t' t5 := zfr_up ht5 (zfr_rf _ _) zq_207 rfl
        refine zl_some (zl_some (fun _ _ => ?_))
        have y6 : m' 10 6 = t' 190 21 := x1.1.1
        have hE5 : zKE (m2 10 6) c m' t5 := ⟨zKA_fr x1.1 (zfr_rf [(3, 8)] m') hft5 rfl rfl, (zfr_ap hft5 zq_190 rfl).trans x1.2.1, x1.2.2⟩
        have z21 : t5 190 21 = t' 190 21 := zfr_ap hft5 zq_190 rfl
        have hl : zlow m m' := zlow_go (zlow_f F2 rfl) x2
        have hlt : zlot t t5 := zlot_go (zlot_go (zlot_f F4 rfl) x3) (zlot_f hft5 rfl)
        have b6 := zi_rd p3.1 zq_10 zb_5_6
        refine ⟨by rw [y6, z21], b6.1, b6.2, fun L l0 l1 hL => ?_⟩
        by_cases e : L = c
        · rw [e]
          refine zLW_new hE5 p7 ?_ ?_
          · rw [zfr_ap (p := 4 + c) hft5 zq_206 rfl, zfr_ap (p := 4 + c) hft' zq_206 rfl, zs_eq ht4, k21', k6]
            exact hN.1.symm
          · rw [z21]; exact zs_eq ht5
        · have e13 : m' 13 L = m 13 L := (x4 L e).1.trans (zfr_ap F2 zq_13 rfl)
          have e14 : m' 14 L = m 14 L := (x4 L e).2.trans (zfr_ap F2 zq_14 rfl)
          have hL0 : 0 ≤ m 13 L := by rw [← e13]; exact hL
          refine zLW_mv (hN.2.2.2 L l0 l1 hL0) hL0 hN.1 e13 e14 ?_ ?_ hl hlt
          · exact (zfr_ap hft5 zq_206 rfl).trans ((zfr_ap hft' zq_206 rfl).trans ((zs_ne ht4 (Or.inr (by omega))).trans (zfr_ap F3 zq_206 rfl)))
          · exact (zs_ne ht5 (Or.inr (by omega))).trans ((zfr_ap hft' zq_207 rfl).trans (zfr_ap F4 zq_207 rfl))
    · rw [if_neg hn, zc_85, zu_bds, zu_b0]
      exact fun v m' _ => zl_some (fun _ h1 => absurd h1 (by decide))
  · rw [if_neg hk, if_neg (show ¬ (0 : Int) ≠ 0 by decide), zc_257, zu_bds, zu_b0, zu_bds, if_neg (show ¬ (0 : Int) ≠ 0 by decide), zu_b0]
    exact zl_some (fun w t' _ h0 => absurd h0 (by decide))

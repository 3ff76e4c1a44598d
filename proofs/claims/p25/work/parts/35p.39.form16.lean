/-! Formula.read and sumRead -/
theorem zFM_0 {m t : zu_m} (h1 : m 47 3 = 0) (h2 : t 190 45 = 0) (h3 : m 47 4 = 0) (h4 : t 190 47 = 0) (h5 : m 49 0 = 0) (h6 : m 47 6 = 1) (h7 : t 190 49 = 1) (h8 : m 47 7 = 1) (h9 : t 190 50 = 1) (h10 : m 10 5 = t 190 48) (h11 : 0 ≤ t 190 48) (h12 : t 190 48 ≤ 64) : zFM m t := by
  refine ⟨⟨by rw [h1, h2], by rw [h2]; decide, by rw [h2]; decide, fun i i0 i1 => ?_⟩, ⟨by rw [h3, h4], by rw [h4]; decide, by rw [h4, h2]; rfl⟩, ⟨by rw [h4, h5, h2]; rfl, fun p p1 => ?_⟩, ?_, ⟨by rw [h6, h7], by rw [h8, h9]⟩, ⟨h10, h11, h12, ?_⟩, fun _ _ => Or.inl h2⟩
  · rw [h2] at i1; exact absurd (Int.lt_of_le_of_lt i0 i1) (Int.lt_irrefl 0)
  · rw [h2] at p1; exact absurd (Int.lt_of_le_of_lt (Int.natCast_nonneg p) p1) (Int.lt_irrefl 0)
  · rw [h2]; exact fun k hk => absurd hk (Nat.not_lt_zero _)
  · rw [h2, h4, Int.add_zero]; exact h11
theorem zz_sum0 (n : Nat) {a : Int} (ha : 0 ≤ a ∧ a ≤ 3) {m t : zu_m} (hST : zST m t) (hLG : zLAG m t) (hX : zR_BX m) (hBN : zR_BN m) (hK10 : zR_K10 m) (hKN : zR_KN t) (hTR : zR_TR t) (h21 : t 190 21 = t 190 48) (h10 : m 10 5 = t 190 48) : zw (zu_call (zt_T n) 198 [(24, 47), (0, a)] m) (fun v m' => zw (zu_call (zt_T n) 118 [(40, 190)] t) (fun w t' => zFE v m' w t' ∨ (v = 0 ∧ w = 1 ∧ zSYN m' t' ∧ (t' 190 8 = 4 ∧ t' 190 9 = 59) ∧ m' 10 5 = t' 190 48 ∧ m' 13 a = m 10 6 ∧ (∀ i, i ≠ a → m' 13 i = m 13 i) ∧ t' 190 5 = t 190 5))) := by
  have a1 := hST.1
  have a2 := hST.2.1
  refine zw_eq (zu_call_at (zt_T n) (zm_198 n) (zdp_198 n) _ _ _ _ _ rfl (zr_198_0 n _ _ 47 a m)) ?_
  rw [if_pos (show 0 ≤ a ∧ a < 4 from ⟨ha.1, Int.lt_of_le_of_lt ha.2 (by decide)⟩), zu_b0, if_pos (show 0 ≤ (0 : Int) ∧ (0 : Int) < 9 by decide), zu_b1, zu_b1]
  have href : zu_call (zt_T n) 118 [(40, 190)] t = _ := zu_call_at (zt_T n) (zm_118 n) (zdp_118 n) _ _ _ _ _ rfl (zr_118_0 n _ _ 190 t)
  rw [href, zu_b1, zu_b1]
  have r6 := zi_rd a1 zq_10 zb_5_6
  generalize hm1 : zu_up m (10 + 3) a (m 10 6) = m1
  have i1 := zi_up hm1 a1 (zc_5_2 zq_10) (zb_35 _) (Int.le_trans (by decide) r6.1) (Int.le_trans r6.2 (by decide))
  have f1 : zfr [(35, 0)] m m1 := zfr_up hm1 (zfr_rf _ _) (zc_5_2 zq_10) rfl
  have x1 : m1 13 a = m 10 6 := zs_eq hm1
  have x2 : ∀ i, i ≠ a → m1 13 i = m 13 i := fun i hi => zs_ne hm1 (Or.inr hi)
  generalize hm2 : zu_up m1 47 3 0 = m2
  have i2 := zi_up hm2 i1 zq_47 zb_10_3 (by decide) (by decide)
  generalize hm3 : zu_up m2 47 4 0 = m3
  have i3 := zi_up hm3 i2 zq_47 zb_10_4 (by decide) (by decide)
  generalize hm4 : zu_up m3 49 0 0 = m4
  have i4 := zi_up hm4 i3 zq_49 (zb_48 _) (by decide) (by decide)
  generalize hm5 : zu_up m4 47 6 1 = m5
  have i5 := zi_up hm5 i4 zq_47 zb_10_6 (by decide) (by decide)
  generalize hm6 : zu_up m5 47 7 1 = m6
  have i6 := zi_up hm6 i5 zq_47 zb_10_7 (by decide) (by decide)
  have f6 : zfr [(10, 4), (10, 5), (48, 0), (10, 7), (10, 8)] m1 m6 := zfr_up hm6 (zfr_up hm5 (zfr_up hm4 (zfr_up hm3 (zfr_up hm2 (zfr_rf _ _) zq_47 rfl) zq_47 rfl) zq_49 rfl) zq_47 rfl) zq_47 rfl
  have y3 : m6 47 3 = 0 := by rw [← hm6, ← hm5, ← hm4, ← hm3, ← hm2]; simp [zu_up_app]
  have y4 : m6 47 4 = 0 := by rw [← hm6, ← hm5, ← hm4, ← hm3]; simp [zu_up_app]
  have y49 : m6 49 0 = 0 := by rw [← hm6, ← hm5, ← hm4]; simp [zu_up_app]
  have y6 : m6 47 6 = 1 := by rw [← hm6, ← hm5]; simp [zu_up_app]
  have y7 : m6 47 7 = 1 := by rw [← hm6]; simp [zu_up_app]
  have F6 : zfr [(35, 0), (10, 4), (10, 5), (48, 0), (10, 7), (10, 8)] m m6 := zfr_tr (zfr_tr (zfr_rf _ m) f1 rfl) f6 rfl
  clear hm1 hm2 hm3 hm4 hm5 hm6 i1 i2 i3 i4 i5
  generalize ht1 : zu_up t 190 45 0 = t1
  have j1 := zi_up ht1 a2 zq_190 zb_28_45 (by decide) (by decide)
  obtain ⟨z1, z2⟩ := zwt_zero ht1 zq_190
  generalize ht2 : zu_up t1 190 46 0 = t2
  have j2 := zi_up ht2 j1 zq_190 zb_28_46 (by decide) (by decide)
  generalize ht3 : zu_up t2 190 47 0 = t3
  have j3 := zi_up ht3 j2 zq_190 zb_28_47 (by decide) (by decide)
  generalize ht4 : zu_up t3 190 49 1 = t4
  have j4 := zi_up ht4 j3 zq_190 zb_28_49 (by decide) (by decide)
  generalize ht5 : zu_up t4 190 50 1 = t5
  have j5 := zi_up ht5 j4 zq_190 zb_28_50 (by decide) (by decide)
  have g5 : zfr [(28, 47), (28, 48), (28, 50), (28, 51)] t1 t5 := zfr_up ht5 (zfr_up ht4 (zfr_up ht3 (zfr_up ht2 (zfr_rf _ _) zq_190 rfl) zq_190 rfl) zq_190 rfl) zq_190 rfl
  have G5 : zfr [(28, 46), (28, 47), (28, 48), (28, 50), (28, 51)] t t5 := zfr_tr (zfr_up ht1 (zfr_rf _ _) zq_190 rfl) g5 rfl
  obtain ⟨z3, z4⟩ := zwt_fr (zdis_fr g5 rfl)
  rw [z1] at z3
  rw [z2] at z4
  have w45 : t5 190 45 = 0 := (zfr_ap g5 zq_190 rfl).trans (zs_eq ht1)
  have w46 : t5 190 46 = 0 := by rw [← ht5, ← ht4, ← ht3, ← ht2]; simp [zu_up_app]
  have w47 : t5 190 47 = 0 := by rw [← ht5, ← ht4, ← ht3]; simp [zu_up_app]
  have w49 : t5 190 49 = 1 := by rw [← ht5, ← ht4]; simp [zu_up_app]
  have w50 : t5 190 50 = 1 := by rw [← ht5]; simp [zu_up_app]
  have w48 : t5 190 48 = t 190 48 := zfr_ap G5 zq_190 rfl
  have w21 : t5 190 21 = t 190 21 := zfr_ap G5 zq_190 rfl
  clear ht1 ht2 ht3 ht4 ht5 j1 j2 j3 j4
  have b48 := zi_rd a2 zq_190 zb_28_48
  have hST6 : zST m6 t5 := zST_r (zST_l hST i6 F6 rfl) j5 G5 rfl
  have hL : zLP m6 t5 := by
    refine ⟨hST6, ?_, zFM_0 y3 w45 y4 w47 y49 y6 w49 y7 w50 ?_ (by rw [w48]; exact b48.1) (by rw [w48]; exact b48.2), ⟨zR_BN_fr (zdis_fr F6 rfl) hBN, zR_K10_fr (zdis_fr F6 rfl) hK10, by rw [y4]; exact (zop_bd i6 zq_47).1, zR_BX_fr F6 rfl hX⟩, ⟨zR_KN_fr (zdis_fr G5 rfl) hKN, zR_TR_fr (zdis_fr G5 rfl) hTR, by rw [z3, w21, w48, Int.add_zero]; exact h21, by rw [w45, z3, w47]; rfl, by rw [w46, w49, z4], fun q => by rw [w49] at q; exact absurd q (by decide)⟩⟩
    · unfold zLAG at hLG ⊢
      rw [funext (fun i => zfr_ap G5 zq_191 rfl : ∀ i, t5 191 i = t 191 i), show t5 190 6 = t 190 6 from zfr_ap G5 zq_190 rfl, show t5 190 7 = t 190 7 from zfr_ap G5 zq_190 rfl, show t5 190 8 = t 190 8 from zfr_ap G5 zq_190 rfl, show t5 190 9 = t 190 9 from zfr_ap G5 zq_190 rfl, show t5 190 10 = t 190 10 from zfr_ap G5 zq_190 rfl, show m6 45 3 = m 45 3 from zfr_ap F6 zq_45 rfl]
      exact hLG
    · rw [w48, ← h10]; exact zfr_ap F6 zq_10 rfl
  refine zw_mono2 (zz_sumLoop n ha 701 0 m6 t5 hL (Int.le_refl 0) (zi_rd i6 zq_45 zb_9_3).1 (by decide)) (fun v m' w t' h => ?_)
  rcases h with h | ⟨h1, h2, h3, h4, h5, h6, h8⟩
  · exact Or.inl h
  · exact Or.inr ⟨h1, h2, h3, h4, h5, (h6 a).trans ((zfr_ap f6 zq_13 rfl).trans x1), fun i hi => (h6 i).trans ((zfr_ap f6 zq_13 rfl).trans (x2 i hi)), h8.trans (zfr_ap G5 zq_190 rfl)⟩
def zWF : List (Nat × Nat) := [(5, 6), (5, 7), (9, 4), (9, 5), (9, 6), (9, 7), (10, 4), (10, 5), (10, 7), (10, 8), (33, 0), (34, 0), (35, 0), (36, 0), (47, 0), (48, 0)]
def zVF : List (Nat × Nat) := [(28, 5), (28, 6), (28, 8), (28, 9), (28, 10), (28, 11), (28, 22), (28, 46), (28, 47), (28, 48), (28, 49), (28, 50), (28, 51), (117, 0), (118, 0), (119, 0), (120, 0), (121, 0)]
theorem zz_sum (n : Nat) {a : Int} (ha : 0 ≤ a ∧ a ≤ 3) {m t : zu_m} (hST : zST m t) (hLG : zLAG m t) (hX : zR_BX m) (hBN : zR_BN m) (hK10 : zR_K10 m) (hKN : zR_KN t) (hTR : zR_TR t) (h21 : t 190 21 = t 190 48) (h10 : m 10 5 = t 190 48) : zw (zu_call (zt_T n) 198 [(24, 47), (0, a)] m) (fun v m' => zw (zu_call (zt_T n) 118 [(40, 190)] t) (fun w t' => zi_I m' ∧ zfr zWF m m' ∧ zfr zVF t t' ∧ (zFE v m' w t' ∨ (v = 0 ∧ w = 1 ∧ zST m' t' ∧ zSYN m' t' ∧ (t' 190 8 = 4 ∧ t' 190 9 = 59) ∧ m' 10 5 = t' 190 48 ∧ m' 13 a = m 10 6 ∧ (∀ i, i ≠ a → m' 13 i = m 13 i) ∧ t' 190 5 = t 190 5)))) := by
  refine zw_mono2 (zw_zl2 (zk_198 n hST.1 zq_47 ha hBN hK10) (zk_118 n hST.2.1 zq_190 h21 hKN hST.2.2.1 hTR hST.2.2.2.1) (zl_mono (zl_of (zz_sum0 n ha hST hLG hX hBN hK10 hKN hTR h21 h10)) (fun v m' h => zl_of h))) (fun v m' w t' h => ?_)
  obtain ⟨⟨hI, hf, -⟩, ⟨hIt, hft, -, hNS, -, hWD, -⟩, hQ⟩ := h
  refine ⟨hI, hf, hft, ?_⟩
  rcases hQ with h | ⟨h1, h2, h3, h4, h5, h6, h7, h8⟩
  · exact Or.inl h
  · exact Or.inr ⟨h1, h2, zST_r2 (zST_l hST hI hf rfl) hIt hNS hWD hft rfl, h3, h4, h5, h6, h7, h8⟩

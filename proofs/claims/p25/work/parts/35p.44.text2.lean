/-! text: from the start to the end, side by side -/
theorem zc_17 (n : Nat) (a : Int) (m : zu_m) : zu_call (zt_T n) 17 [(22, 45), (0, a)] m = some (0, zu_up (zu_up m 45 2 a) 45 3 0) := zu_call_at (zt_T n) (zm_17 n) (zdp_17 n) _ _ _ _ _ rfl (zr_17_0 n _ _ 45 a m)
theorem zle2 {a b : Int} (h : b ≤ a ∧ a ≤ b) : a = b := Int.le_antisymm h.2 h.1
def zWR : List (Nat × Nat) := [(4, 1), (4, 2), (4, 3), (4, 4), (4, 5), (4, 6), (5, 6), (5, 7), (30, 0), (31, 0), (32, 0), (35, 0), (36, 0), (6, 3), (6, 5), (6, 9), (6, 10), (6, 11), (6, 12), (43, 0), (44, 0), (3, 5), (3, 6), (3, 7), (3, 10), (3, 11), (9, 3), (9, 4)]
theorem zz_read (n : Nat) {a : Int} (ha : 0 ≤ a ∧ a ≤ 700) {m t : zu_m} (hI : zi_I m) (hBN : zR_BN m) (hK10 : zR_K10 m) (hW1 : zR_W1 m) (hX : zR_BX m) (hIt : zi_I t) (hC0 : zR_C0 t) (hKN : zR_KN t) (hLT : zR_LT t) (hWD : zR_WD t) (hW2 : zR_W2 t) (h6 : t 190 6 = a) (h7 : t 190 7 = 0) (h4 : t 190 4 = 0) (h5 : t 190 5 = -1) (hT : m 4 = t 191) : zw (zu_call (zt_T n) 12 [(7, 5), (0, a)] m) (fun v m' => zw (zu_bd (zu_call (zt_T n) 30 [(40, 190)] t) (fun v46 s46 => (zu_bd (zu_call (zt_T n) 89 [(40, 190)] s46) (fun v50 s50 => (zu_ex (zt_T n) 106 55 [(40, 190), (0, a), (0, 0)] [] s50))))) (fun w t' => zTX n v m' w t')) := by
  refine zw_eq (zu_call_at (zt_T n) (zm_12 n) (zdp_12 n) _ _ _ _ _ rfl (zr_12_0 n _ _ 5 a m)) ?_
  refine zw_bd (zw_mono (zw_and (zk_13 n hI zq_6) (zy_13 n hI)) (fun _ m1 hs => ?_))
  obtain ⟨⟨i1, f1, g6, -⟩, y1, y2, y3, y4, y5, y6, y7, y8, y9⟩ := hs
  refine zw_bd (zw_mono (zk_16 n i1 zq_19) (fun _ m2 hs => ?_))
  obtain ⟨i2, f2, hE, -, u10, u11, u2, u4, -⟩ := hs
  rw [zu_b0, zc_17, zu_bds]
  generalize hm3 : zu_up m2 5 4 0 = m3
  have i3 := zi_up hm3 i2 zq_5 zb_3_4 (by decide) (by decide)
  generalize hm4 : zu_up m3 5 5 0 = m4
  have i4 := zi_up hm4 i3 zq_5 zb_3_5 (by decide) (by decide)
  generalize hm5 : zu_up m4 5 6 0 = m5
  have i5 := zi_up hm5 i4 zq_5 zb_3_6 (by decide) (by decide)
  generalize hm6 : zu_up m5 5 9 0 = m6
  have i6 := zi_up hm6 i5 zq_5 zb_3_9 (by decide) (by decide)
  generalize hm7 : zu_up m6 5 10 (-1) = m7
  have i7 := zi_up hm7 i6 zq_5 zb_3_10 (by decide) (by decide)
  generalize hm8 : zu_up m7 45 2 a = m8
  have i8 := zi_up hm8 i7 zq_45 zb_9_2 ha.1 ha.2
  generalize hm9 : zu_up m8 45 3 0 = m9
  have i9 := zi_up hm9 i8 zq_45 zb_9_3 (by decide) (by decide)
  have f9 : zfr [(3, 5), (3, 6), (3, 7), (3, 10), (3, 11), (9, 3), (9, 4)] m2 m9 := zfr_up hm9 (zfr_up hm8 (zfr_up hm7 (zfr_up hm6 (zfr_up hm5 (zfr_up hm4 (zfr_up hm3 (zfr_rf _ _) zq_5 rfl) zq_5 rfl) zq_5 rfl) zq_5 rfl) zq_5 rfl) zq_45 rfl) zq_45 rfl
  have F : zfr zWR m m9 := zfr_tr (zfr_tr (zfr_tr (zfr_rf zWR m) f1 rfl) f2 rfl) f9 rfl
  have x54 : m9 5 4 = 0 := by rw [← hm9, ← hm8, ← hm7, ← hm6, ← hm5, ← hm4, ← hm3]; simp [zu_up_app]
  have x55 : m9 5 5 = 0 := by rw [← hm9, ← hm8, ← hm7, ← hm6, ← hm5, ← hm4]; simp [zu_up_app]
  have x56 : m9 5 6 = 0 := by rw [← hm9, ← hm8, ← hm7, ← hm6, ← hm5]; simp [zu_up_app]
  have x59 : m9 5 9 = 0 := by rw [← hm9, ← hm8, ← hm7, ← hm6]; simp [zu_up_app]
  have x510 : m9 5 10 = -1 := by rw [← hm9, ← hm8, ← hm7]; simp [zu_up_app]
  have x452 : m9 45 2 = a := by rw [← hm9, ← hm8]; simp [zu_up_app]
  have x453 : m9 45 3 = 0 := by rw [← hm9]; simp [zu_up_app]
  clear hm3 hm4 hm5 hm6 hm7 hm8 hm9 i3 i4 i5 i6 i7 i8
  refine zw_swap ?_
  refine zw_bd (zw_mono (zw_zl (zk_30 n hIt zq_190 hLT) (zy_30 n t)) (fun _ t1 hs => ?_))
  obtain ⟨⟨j1, g1, hCR1, hLR1, hLT1, -, v17, v18, v19, v20, v21, v22, v23, v48⟩, z205, z195, z194, z193⟩ := hs
  have k6 : t1 190 6 = a := (zfr_ap g1 zq_190 rfl).trans h6
  have k7 : t1 190 7 = 0 := (zfr_ap g1 zq_190 rfl).trans h7
  have hNS1 : zR_NS t1 := zR_NS_of (a := 190) zq_190 (by rw [k6, k7]; exact ha.1)
  have hWD1 : zR_WD t1 := zR_WD_fr (zdis_fr g1 rfl) hWD
  have hST : zST m9 t1 := by
    refine ⟨i9, j1, hNS1, hWD1, fun i p0 p1 => (zfr_ap F zq_46 rfl).trans (hW1 i p0 p1), fun i p0 p1 => (zfr_ap g1 zq_192 rfl).trans (hW2 i p0 p1), ?_, x452.trans k6.symm⟩
    rw [funext (fun i => zfr_ap F zq_4 rfl : ∀ i, m9 4 i = m 4 i), funext (fun i => zfr_ap g1 zq_191 rfl : ∀ i, t1 191 i = t 191 i)]
    exact hT
  refine zw_bd (zw_mono (zw_and (zp_tkn n hST (x453.trans k7.symm)) (zk_89 n j1 zq_190 hNS1 hWD1)) (fun _ t2 hs => ?_))
  obtain ⟨⟨hST2, g2, hLG2⟩, -, -, -, hTR2, -⟩ := hs
  have e190 : ∀ p, zin zWB 28 p = false → t2 190 p = t1 190 p := fun p hp => zfr_ap g2 zq_190 hp
  have G : zfr [(28, 18), (28, 19), (28, 20), (28, 21), (28, 22), (28, 23), (28, 24), (28, 49), (102, 0), (103, 0), (104, 0), (105, 0), (114, 0), (28, 8), (28, 9), (28, 10), (28, 11)] t t2 := zfr_tr (zfr_tr (zfr_rf _ t) g1 rfl) g2 rfl
  have y19 : ∀ p, zin [(3, 5), (3, 6), (3, 7), (3, 10), (3, 11), (9, 3), (9, 4)] 6 p = false → m9 19 p = m2 19 p := fun p hp => zfr_ap f9 zq_19 hp
  have y6' : ∀ p, m9 6 p = m1 6 p := fun p => (zfr_ap f9 zq_6 rfl).trans (zfr_ap f2 zq_6 rfl)
  have q2 : m9 19 2 = 0 := (y19 2 rfl).trans (zle2 u2)
  have q4 : m9 19 4 = 0 := (y19 4 rfl).trans (zle2 u4)
  have q10 : m9 19 10 = 0 := (y19 10 rfl).trans (zle2 u10)
  have q11 : m9 19 11 = 1000000 := (y19 11 rfl).trans (zle2 u11)
  have e48 : t2 190 48 = 0 := (e190 48 rfl).trans (zle2 v48)
  have e21 : t2 190 21 = 0 := (e190 21 rfl).trans (zle2 v21)
  have d194 : ∀ i, 5 ≤ i → i < 10 → t2 194 i = if i = 8 then -1 else 0 := fun i p0 p1 => (zfr_ap g2 zq_194 rfl).trans (z194 i p0 p1)
  have d193 : ∀ i, 0 ≤ i → i < 6 → t2 193 i = 0 := fun i p0 p1 => (zfr_ap g2 zq_193 rfl).trans (z193 i p0 p1)
  have hRD : zRD m9 t2 := by
    refine ⟨⟨?_, ?_, ?_, ?_, ?_, ?_, ?_⟩, ⟨?_, fun i p0 p1 => Or.inl (d193 i p0 p1)⟩, fun c c0 c1 => ?_, ⟨by rw [q2]; decide, fun k k0 k1 => ?_⟩, ⟨by rw [q4]; decide, fun k k0 k1 => ?_⟩, ⟨?_, ?_, ?_, Or.inr ⟨q11, d194 8 (by decide) (by decide)⟩, ?_⟩, fun k k0 k1 => ?_⟩
    · rw [y6', y1, e190 17 rfl]; exact (zle2 v17).symm
    · rw [y6', y2, e190 18 rfl]; exact (zle2 v18).symm
    · rw [x56, e190 23 rfl]; exact (zle2 v23).symm
    · rw [x55, e190 22 rfl]; exact (zle2 v22).symm
    · rw [q2, e190 19 rfl]; exact (zle2 v19).symm
    · rw [q4, e190 20 rfl]; exact (zle2 v20).symm
    · rw [e48, zfr_ap (p := 5) f9 zq_10 rfl, zfr_ap (p := 5) f2 zq_10 rfl]; exact y6
    · rw [x54, d193 0 (by decide) (by decide), d193 1 (by decide) (by decide), d193 2 (by decide) (by decide), d193 3 (by decide) (by decide), d193 4 (by decide) (by decide), d193 5 (by decide) (by decide)]; rfl
    · obtain ⟨p1, p2⟩ := z195 c c0 c1
      have r1 : m9 9 c = 0 := ((zfr_ap f9 zq_9 rfl).trans (zfr_ap f2 zq_9 rfl)).trans (y9 c c0 c1)
      have r2 : t2 195 (48 + c) = 0 := (zfr_ap g2 zq_195 rfl).trans p1
      have r3 : t2 196 c = 0 := (zfr_ap g2 zq_196 rfl).trans p2
      rw [r1, r2, r3]
      exact ⟨rfl, fun _ => rfl, fun _ => rfl⟩
    · rw [q2] at k1; exact absurd (Int.lt_of_le_of_lt k0 k1) (Int.lt_irrefl 0)
    · rw [q4] at k1; exact absurd (Int.lt_of_le_of_lt k0 k1) (Int.lt_irrefl 0)
    · rw [q10, d194 5 (by decide) (by decide)]; rfl
    · rw [y6', y3, d194 6 (by decide) (by decide)]; rfl
    · rw [y6', y4, d194 7 (by decide) (by decide)]; rfl
    · rw [y6', y5, d194 9 (by decide) (by decide)]; rfl
    · have r1 : m9 13 k = -1 := ((zfr_ap f9 zq_13 rfl).trans (zfr_ap f2 zq_13 rfl)).trans (y8 k k0 k1)
      have r2 : t2 205 (4 + k) = 0 := (zfr_ap g2 zq_205 rfl).trans (z205 (4 + k) (by omega) (by omega))
      rw [r1, r2]
      exact ⟨fun _ => rfl, fun _ => by decide⟩
  have hCC : zCC m9 := ⟨zR_BN_fr (zdis_fr F rfl) hBN, fun _ => q4, zR_E19_fr (zdis_fr f9 rfl) hE, zR_G6_fr (zdis_fr f9 rfl) (zR_G6_fr (zdis_fr f2 rfl) g6), zR_K10_fr (zdis_fr F rfl) hK10, zR_BX_fr F rfl hX⟩
  have hCR : zCR t2 := ⟨zR_C0_fr (zdis_fr G rfl) hC0, zR_CR_fr (zdis_fr g2 rfl) hCR1, zR_KN_fr (zdis_fr G rfl) hKN, zR_LR_fr (zdis_fr g2 rfl) hLR1, zR_LT_fr (zdis_fr g2 rfl) hLT1, hTR2, e21.trans e48.symm, (zfr_ap G zq_190 rfl).trans h4⟩
  refine zw_swap ?_
  exact zz_readLoop n 701 0 m9 t2 hST2 hLG2 hRD hCC hCR (Int.le_refl 0) (zi_rd hST2.2.1 zq_190 zb_28_7).1 x59 x510 ((zfr_ap G zq_190 rfl).trans h5) (by decide)
/-- faults told alike -/
def zTP (m t : zu_m) : Prop := m 3 2 = t 190 4 ∧ m 3 3 = t 190 5
/-- what comes of a text: not begun, a fault, or adopted on both sides -/
def zTO (n : Nat) (m t : zu_m) (v : Int) (m' : zu_m) (w : Int) (t' : zu_m) : Prop := v = w ∧ (zTP m t → zTP m' t') ∧ ((v = -2 ∧ m' = m ∧ t' = zu_up t 190 2 0) ∨ (v = -1) ∨ (0 ≤ v ∧ zTP m' t' ∧ ∃ m1 t1 p q, zST m1 t1 ∧ zRD m1 t1 ∧ zCC m1 ∧ zCR t1 ∧ zu_call (zt_T n) 19 [(5, 3)] m1 = some (p, m') ∧ zu_call (zt_T n) 31 [(40, 190)] t1 = some (q, t')))
theorem zz_text0 (n : Nat) {a : Int} (ha : -2147483648 ≤ a ∧ a ≤ 2147483647) {m t : zu_m} (hI : zi_I m) (hBN : zR_BN m) (hK10 : zR_K10 m) (hW1 : zR_W1 m) (hX : zR_BX m) (hIt : zi_I t) (hC0 : zR_C0 t) (hKN : zR_KN t) (hLT : zR_LT t) (hWD : zR_WD t) (hW2 : zR_W2 t) (hT : m 4 = t 191) (hL : m 3 1 = t 190 1) : zl (zu_call (zt_T n) 42 [(5, 3), (0, a)] m) (fun v m' => zl (zu_call (zt_T n) 106 [(40, 190), (0, a)] t) (fun w t' => zTO n m t v m' w t')) := by
  have b1 := zi_rd hI zq_3 zb_2_1
  refine zl_eq (zu_call_at (zt_T n) (zm_42 n) (zdp_42 n) _ _ _ _ _ rfl (zr_42_0 n _ _ 3 a m)) ?_
  rw [zu_call_at (zt_T n) (zm_106 n) (zdp_106 n) _ _ _ _ _ rfl (zr_106_0 n _ _ 190 a t), show (zu_up t 190 2 0) 190 1 = t 190 1 from zu_up_ne (Or.inr (by decide)), ← hL]
  have hno : zTO n m t (-2) m (-2) (zu_up t 190 2 0) := by
    refine ⟨rfl, fun h => ⟨h.1.trans (zu_up_ne (Or.inr (by decide))).symm, h.2.trans (zu_up_ne (Or.inr (by decide))).symm⟩, Or.inl ⟨rfl, rfl, rfl⟩⟩
  by_cases h0 : a < 0
  · rw [if_pos h0, if_pos h0]
    exact zl_some (zl_some hno)
  rw [if_neg h0, if_neg h0]
  by_cases h1 : a ≤ m 3 1
  · rw [if_pos h1, if_pos h1]
    have a700 : 0 ≤ a ∧ a ≤ 700 := ⟨Int.not_lt.mp h0, Int.le_trans h1 b1.2⟩
    have r1 := zi_rd hIt zq_190 zb_28_1
    generalize ht1 : zu_up t 190 2 0 = t1
    have j1 := zi_up ht1 hIt zq_190 zb_28_2 (by decide) (by decide)
    generalize ht2 : zu_up t1 190 6 a = t2
    have j2 := zi_up ht2 j1 zq_190 zb_28_6 a700.1 a700.2
    generalize ht3 : zu_up t2 190 1 0 = t3
    have j3 := zi_up ht3 j2 zq_190 zb_28_1 (by decide) (by decide)
    generalize ht4 : zu_up t3 190 4 0 = t4
    have j4 := zi_up ht4 j3 zq_190 zb_28_4 (by decide) (by decide)
    generalize ht5 : zu_up t4 190 5 (-1) = t5
    have j5 := zi_up ht5 j4 zq_190 zb_28_5 (by decide) (by decide)
    generalize ht6 : zu_up t5 190 7 0 = t6
    have j6 := zi_up ht6 j5 zq_190 zb_28_7 (by decide) (by decide)
    have G : zfr [(28, 3), (28, 7), (28, 2), (28, 5), (28, 6), (28, 8)] t t6 := zfr_up ht6 (zfr_up ht5 (zfr_up ht4 (zfr_up ht3 (zfr_up ht2 (zfr_up ht1 (zfr_rf _ _) zq_190 rfl) zq_190 rfl) zq_190 rfl) zq_190 rfl) zq_190 rfl) zq_190 rfl
    have x6 : t6 190 6 = a := by rw [← ht6, ← ht5, ← ht4, ← ht3, ← ht2]; simp [zu_up_app]
    have x4 : t6 190 4 = 0 := by rw [← ht6, ← ht5, ← ht4]; simp [zu_up_app]
    have x5 : t6 190 5 = -1 := by rw [← ht6, ← ht5]; simp [zu_up_app]
    have x7 : t6 190 7 = 0 := by rw [← ht6]; simp [zu_up_app]
    clear ht1 ht2 ht3 ht4 ht5 ht6 j1 j2 j3 j4 j5
    have hT6 : m 4 = t6 191 := hT.trans (funext (fun i => (zfr_ap G zq_191 rfl).symm))
    have hz := zz_read n a700 hI hBN hK10 hW1 hX j6 (zR_C0_fr (zdis_fr G rfl) hC0) (zR_KN_fr (zdis_fr G rfl) hKN) (zR_LT_fr (zdis_fr G rfl) hLT) (zR_WD_fr (zdis_fr G rfl) hWD) (fun i p0 p1 => (zfr_ap G zq_192 rfl).trans (hW2 i p0 p1)) x6 x7 x4 x5 hT6
    refine zl_bd (zl_mono (zl_of hz) (fun v m1 hs => ?_))
    generalize hm2 : zu_up m1 3 1 0 = m2
    have e9 : m2 5 9 = m1 5 9 := zs_ne hm2 (Or.inl (by decide))
    rw [e9]
    generalize hm3 : zu_up m2 3 2 (m1 5 9) = m3
    have e10 : m3 5 10 = m1 5 10 := (zs_ne hm3 (Or.inl (by decide))).trans (zs_ne hm2 (Or.inl (by decide)))
    rw [e10]
    generalize hm4 : zu_up m3 3 3 (m1 5 10) = m4
    have e32 : m4 3 2 = m1 5 9 := (zs_ne hm4 (Or.inr (by decide))).trans (zs_eq hm3)
    have e33 : m4 3 3 = m1 5 10 := zs_eq hm4
    rw [e32]
    have hf4 : zfr [(2, 2), (2, 3), (2, 4)] m1 m4 := zfr_up hm4 (zfr_up hm3 (zfr_up hm2 (zfr_rf _ _) zq_3 rfl) zq_3 rfl) zq_3 rfl
    by_cases hf : m1 5 9 = 0
    · rw [if_pos hf]
      refine zl_bd (fun p m5 e5 => zl_some (zl_mono (zl_of hs) (fun w t' h => ?_)))
      rcases h with ⟨-, -, q, -⟩ | ⟨q1, q2, q3, q4, q5, q6, t1, q, q7, q8, q9, q10, q11⟩
      · exact absurd hf q
      have I1 := q7.1
      have I2 := zi_up hm2 I1 zq_3 zb_2_1 (by decide) (by decide)
      have b9 := zi_rd I1 zq_5 zb_3_9
      have b10 := zi_rd I1 zq_5 zb_3_10
      have I3 := zi_up hm3 I2 zq_3 zb_2_2 b9.1 b9.2
      have I4 := zi_up hm4 I3 zq_3 zb_2_3 b10.1 b10.2
      obtain ⟨h1, h2, h3, h4', h5', h6'⟩ := q9
      have hCC4 : zCC m4 := ⟨zR_BN_fr (zdis_fr hf4 rfl) h1, zR_CT_fr (zdis_fr hf4 rfl) h2, zR_E19_fr (zdis_fr hf4 rfl) h3, zR_G6_fr (zdis_fr hf4 rfl) h4', zR_K10_fr (zdis_fr hf4 rfl) h5', zR_BX_fr hf4 rfl h6'⟩
      obtain ⟨d1, d2, d3, d4, d5, d6, d7⟩ := q8
      have hD4 : zRD m4 t1 := ⟨zDw_fr d1 hf4 (zfr_rf zWB t1) rfl rfl, zDo_fr d2 hf4 (zfr_rf zWB t1) rfl rfl, zDk_fr d3 hf4 (zfr_rf zWB t1) rfl rfl, zDe_fr d4 hf4 (zfr_rf zWB t1) rfl rfl, zDc_fr d5 hf4 (zfr_rf zWB t1) rfl rfl, zDs_fr d6 hf4 (zfr_rf zWB t1) rfl rfl, zDl_fr d7 hf4 (zfr_rf zWB t1) rfl rfl⟩
      obtain ⟨-, hf5, -⟩ := zl_of (zk_19 n I4 zq_3 hCC4.2.2.1 hCC4.2.2.2.1 hCC4.2.2.2.2.1) p m5 e5
      have hTP : zTP m5 t' := ⟨by rw [zfr_ap (p := 2) hf5 zq_3 rfl, e32, q3, q5], by rw [zfr_ap (p := 3) hf5 zq_3 rfl, e33, q4, q6]⟩
      exact ⟨q1.symm, fun _ => hTP, Or.inr (Or.inr ⟨q2, hTP, m4, t1, p, q, zST_l q7 I4 hf4 rfl, hD4, hCC4, q10, e5, q11⟩)⟩
    · rw [if_neg hf]
      refine zl_some (zl_mono (zl_of hs) (fun w t' h => ?_))
      rcases h with ⟨q1, q2, -, q3⟩ | ⟨-, -, q3, -⟩
      · exact ⟨q1.symm, fun _ => ⟨by rw [e32, q2], by rw [e33, q3]⟩, Or.inr (Or.inl rfl)⟩
      · exact absurd q3 hf
  · rw [if_neg h1, if_neg h1]
    exact zl_some (zl_some hno)

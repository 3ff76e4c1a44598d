/-! what was seen: see, strike, known; keep, back -/
theorem zy_178 (n : Nat) {a1 a2 a3 a4 s : Int} {t : zu_m} (hs : t 190 77 = s) (h0 : 0 ≤ s) (h1 : s < 24) : zl (zu_call (zt_T n) 178 [(40, 190), (0, a1), (0, a2), (0, a3), (0, a4)] t) (fun w t' => w = s ∧ t' 190 77 = s + 1) := by
  refine zl_eq (zu_call_at (zt_T n) (zm_178 n) (zdp_178 n) _ _ _ _ _ rfl (zr_178_0 n _ _ 190 a1 a2 a3 a4 t)) ?_
  refine zl_if (fun _ => zl_if (fun _ => zl_if (fun _ => zl_if (fun _ => zl_some ?_))))
  rw [zu_up_eq, zu_up_ne (Or.inl (by decide)), zu_up_ne (Or.inl (by decide)), zu_up_ne (Or.inl (by decide)), zu_up_ne (Or.inl (by decide)), hs, zu_w32_id (z := s + 1) (by omega) (by omega), zu_w32_id (z := s + 1 - 1) (by omega) (by omega)]
  exact ⟨by omega, rfl⟩
theorem zy_272 (n : Nat) {a1 a2 a3 a4 s : Int} {m : zu_m} (hs : m 141 6 = s) (h0 : 0 ≤ s) : zl (zu_call (zt_T n) 272 [(28, 141), (0, a1), (0, a2), (0, a3), (0, a4)] m) (fun v m' => (s < 24 ∧ v = s ∧ m' 141 6 = s + 1) ∨ (¬ s < 24 ∧ v = -1 ∧ m' 141 6 = s)) := by
  refine zl_eq (zu_call_at (zt_T n) (zm_272 n) (zdp_272 n) _ _ _ _ _ rfl (zr_272_0 n _ _ 141 a1 a2 a3 a4 m)) ?_
  rw [hs]
  refine zl_ite (fun h => ?_) (fun h => zl_some (Or.inr ⟨h, rfl, hs⟩))
  refine zl_if (fun _ => zl_if (fun _ => zl_if (fun _ => zl_b (zl_if (fun _ => zl_if (fun _ => zl_some (Or.inl ⟨h, ?_⟩))))))) 
  rw [zu_up_eq, zu_up_ne (Or.inl (by decide)), zu_up_ne (Or.inl (by decide)), zu_up_ne (Or.inl (by decide)), zu_up_ne (Or.inl (by decide)), zu_up_ne (Or.inl (by decide)), hs, zu_w32_id (z := s + 1) (by omega) (by omega), zu_w32_id (z := s + 1 - 1) (by omega) (by omega)]
  exact ⟨by omega, rfl⟩
theorem zz_knownL (n : Nat) {a b : Int} (hab : b = a) {m m1 m2 : zu_m} {v w : Int} {W : List (Nat × Nat)} (hSF : zR_SF m) (f1 : zfr W m m1) (d1 : zdis W [(28, 78)] = true) (e1 : zu_call (zt_T n) 74 [(5, 3), (0, a)] m = some (v, m1)) (e2 : zu_call (zt_T n) 181 [(40, 190), (0, b)] m1 = some (w, m2)) : v = w := by
  subst hab
  have q := zdis_fr f1 d1
  have h : zl (zu_call (zt_T n) 74 [(5, 3), (0, b)] m) (fun v _ => zl (zu_call (zt_T n) 181 [(40, 190), (0, b)] m1) (fun w _ => v = w)) := by
    refine zl_eq (zu_call_at (zt_T n) (zm_74 n) (zdp_74 n) _ _ _ _ _ rfl (zr_74_0 n _ _ 3 b m)) ?_
    rw [zu_call_at (zt_T n) (zm_181 n) (zdp_181 n) _ _ _ _ _ rfl (zr_181_0 n _ _ 190 b m1), show (zu_up m1 190 2 0) 190 77 = m 141 6 from (zu_up_ne (Or.inr (by decide))).trans ((q 190 77 (by rw [zq_190]; rfl)).trans hSF.symm), zc_83, zu_bds]
    by_cases h1 : b < -1
    · rw [if_pos h1, if_neg (show ¬ (-1 ≤ b ∧ b ≤ m 141 6) by omega), if_neg (show ¬ (0 : Int) ≠ 0 by decide), zu_b0, zu_b0]
      exact zl_some (zl_some rfl)
    · rw [if_neg h1]
      by_cases h2 : b ≤ m 141 6
      · rw [if_pos h2, if_pos (show -1 ≤ b ∧ b ≤ m 141 6 by omega), if_pos (show (1 : Int) ≠ 0 by decide), zu_b1, zu_b1]
        exact zl_some (zl_some rfl)
      · rw [if_neg h2, if_neg (show ¬ (-1 ≤ b ∧ b ≤ m 141 6) by omega), if_neg (show ¬ (0 : Int) ≠ 0 by decide), zu_b0, zu_b0]
        exact zl_some (zl_some rfl)
  exact h v m1 e1 w m2 e2
theorem zz_strikeL (n : Nat) {a b : Int} (hab : b = a) {m m1 m2 : zu_m} {v w : Int} {W V : List (Nat × Nat)} (hI : zi_I m) (hSF : zR_SF m) (f1 : zfr W m m1) (d1 : zdis W [(28, 78)] = true) (f2 : zfr V m1 m2) (d2 : zdis V [(22, 7)] = true) (e1 : zu_call (zt_T n) 73 [(5, 3), (0, a)] m = some (v, m1)) (e2 : zu_call (zt_T n) 180 [(40, 190), (0, b)] m1 = some (w, m2)) : v = w ∧ zR_SF m2 := by
  subst hab
  have q := zdis_fr f1 d1
  have b6 := zi_rd hI zq_141 zb_22_6
  obtain ⟨s, hs⟩ : ∃ s, m 141 6 = s := ⟨_, rfl⟩
  rw [hs] at b6
  have t77 : m1 190 77 = s := (q 190 77 (by rw [zq_190]; rfl)).trans (hSF.symm.trans hs)
  have h : zl (zu_call (zt_T n) 73 [(5, 3), (0, b)] m) (fun v m' => zl (zu_call (zt_T n) 180 [(40, 190), (0, b)] m1) (fun w t' => v = w ∧ m' 141 6 = t' 190 77)) := by
    refine zl_eq (zu_call_at (zt_T n) (zm_73 n) (zdp_73 n) _ _ _ _ _ rfl (zr_73_0 n _ _ 3 b m)) ?_
    rw [zu_call_at (zt_T n) (zm_180 n) (zdp_180 n) _ _ _ _ _ rfl (zr_180_0 n _ _ 190 b m1)]
    generalize ht : zu_up m1 190 2 0 = t
    have e77 : t 190 77 = s := (zs_ne ht (Or.inr (by decide))).trans t77
    rw [e77, zu_call_at (zt_T n) (zm_273 n) (zdp_273 n) _ _ _ _ _ rfl (zr_273_0 n _ _ 141 b m), hs]
    have no : zl (zu_bd (some (-1, m)) (fun v5 s5 => some (v5, s5))) (fun v m' => zl (some (-1, t)) (fun w t' => v = w ∧ m' 141 6 = t' 190 77)) := by
      rw [zu_bds]
      exact zl_some (zl_some ⟨rfl, hs.trans e77.symm⟩)
    by_cases h0 : b < 0
    · rw [if_pos h0, if_pos h0, ite_self]
      exact no
    rw [if_neg h0, if_neg h0]
    by_cases h1 : s ≤ b
    · rw [if_pos h1, if_neg (show ¬ b < s by omega), ite_self]
      exact no
    rw [if_neg h1, if_pos (show b < s by omega)]
    by_cases h24 : s = 24
    · rw [if_pos h24, if_neg (show ¬ s < 24 by omega)]
      exact no
    rw [if_neg h24, if_pos (show s < 24 by omega), if_pos (show 0 ≤ s ∧ s < 24 by omega), zu_bds]
    refine zl_some (zl_bd (zl_mono (zy_178 n e77 b6.1 (by omega)) (fun w t' hw => zl_some ⟨?_, ?_⟩)))
    · rw [hw.1, zu_up_eq, zu_up_ne (Or.inl (by decide)), hs, zu_w32_id (z := s + 1) (by omega) (by omega), zu_w32_id (z := s + 1 - 1) (by omega) (by omega)]
      omega
    · rw [hw.2, zu_up_eq, zu_up_ne (Or.inl (by decide)), hs, zu_w32_id (z := s + 1) (by omega) (by omega)]
  obtain ⟨g1, g2⟩ := h v m1 e1 w m2 e2
  exact ⟨g1, (zdis_fr f2 d2 141 6 (by rw [zq_141]; rfl)).trans g2⟩
theorem zz_seeL (n : Nat) {a1 a2 a3 a4 b1 b2 b3 b4 : Int} (h1 : b1 = a1) (h2 : b2 = a2) (h3 : b3 = a3) {m m1 m2 : zu_m} {v w : Int} {W V : List (Nat × Nat)} (hI : zi_I m) (hNA : zR_NA m) (hSF : zR_SF m) (f1 : zfr W m m1) (d1 : zdis W [(28, 78), (28, 16)] = true) (f2 : zfr V m1 m2) (d2 : zdis V [(22, 7)] = true) (e1 : zu_call (zt_T n) 72 [(5, 3), (0, a1), (0, a2), (0, a3), (0, a4)] m = some (v, m1)) (e2 : zu_call (zt_T n) 179 [(40, 190), (0, b1), (0, b2), (0, b3), (0, b4)] m1 = some (w, m2)) : v = w ∧ zR_SF m2 := by
  subst h1 h2 h3
  have q := zdis_fr f1 d1
  have b6 := zi_rd hI zq_141 zb_22_6
  obtain ⟨s, hs⟩ : ∃ s, m 141 6 = s := ⟨_, rfl⟩
  rw [hs] at b6
  have t77 : m1 190 77 = s := (q 190 77 (by rw [zq_190]; rfl)).trans (hSF.symm.trans hs)
  have t15 : m1 190 15 = m 89 4 := (q 190 15 (by rw [zq_190]; rfl)).trans hNA.1.1.symm
  have h : zl (zu_call (zt_T n) 72 [(5, 3), (0, b1), (0, b2), (0, b3), (0, a4)] m) (fun v m' => zl (zu_call (zt_T n) 179 [(40, 190), (0, b1), (0, b2), (0, b3), (0, b4)] m1) (fun w t' => v = w ∧ m' 141 6 = t' 190 77)) := by
    refine zl_eq (zu_call_at (zt_T n) (zm_72 n) (zdp_72 n) _ _ _ _ _ rfl (zr_72_0 n _ _ 3 b1 b2 b3 a4 m)) ?_
    rw [zu_call_at (zt_T n) (zm_179 n) (zdp_179 n) _ _ _ _ _ rfl (zr_179_0 n _ _ 190 b1 b2 b3 b4 m1)]
    generalize ht : zu_up m1 190 2 0 = t
    have e77 : t 190 77 = s := (zs_ne ht (Or.inr (by decide))).trans t77
    have e15 : t 190 15 = m 89 4 := (zs_ne ht (Or.inr (by decide))).trans t15
    have c53 : zu_call (zt_T n) 53 [(0, b1)] m = some (if 1 ≤ b1 ∧ b1 ≤ 200 then 1 else 0, m) := by
      rw [zu_call_at (zt_T n) (zm_53 n) (zdp_53 n) _ _ _ _ _ rfl (zr_53_0 n _ _ b1 m), zu_b0, zu_b1]
      by_cases g1 : b1 < 1
      · rw [if_pos g1, if_neg (by omega)]
      · rw [if_neg g1]
        by_cases g2 : 200 < b1
        · rw [if_pos g2, if_neg (by omega)]
        · rw [if_neg g2, if_pos (by omega)]
    have c211 : zu_call (zt_T n) 211 [(27, 89), (0, b2)] m = some (if 0 ≤ b2 ∧ b2 < m 89 4 then 1 else 0, m) := by
      rw [zu_call_at (zt_T n) (zm_211 n) (zdp_211 n) _ _ _ _ _ rfl (zr_211_0 n _ _ 89 b2 m), zu_b0, zu_b1]
      by_cases g1 : b2 < 0
      · rw [if_pos g1, if_neg (by omega)]
      · rw [if_neg g1]
        by_cases g2 : m 89 4 ≤ b2
        · rw [if_pos g2, if_neg (by omega)]
        · rw [if_neg g2, if_pos (by omega)]
    have c125 : zu_call (zt_T n) 125 [(40, 190), (0, b2)] t = some (if 0 ≤ b2 ∧ b2 < m 89 4 then 1 else 0, t) := by
      rw [zu_call_at (zt_T n) (zm_125 n) (zdp_125 n) _ _ _ _ _ rfl (zr_125_0 n _ _ 190 b2 t), zu_b0, zu_b1, e15]
      by_cases g1 : b2 < 0
      · rw [if_pos g1, if_neg (by omega)]
      · rw [if_neg g1]
        by_cases g2 : m 89 4 ≤ b2
        · rw [if_pos g2, if_neg (by omega)]
        · rw [if_neg g2, if_pos (by omega)]
    have no : zl (some (-1, m)) (fun v m' => zl (some (-1, t)) (fun w t' => v = w ∧ m' 141 6 = t' 190 77)) := zl_some (zl_some ⟨rfl, hs.trans e77.symm⟩)
    rw [e77, c53, zu_bds, zc_83, zu_bds, c211, zu_bds, c125, zu_bds, zc_83, zu_bds]
    by_cases g1 : 1 ≤ b1 ∧ b1 ≤ 200
    · rw [if_pos g1, if_neg (show ¬ (1 : Int) = 0 by decide), if_neg (show ¬ (1 : Int) = 0 by decide)]
      by_cases g2 : 0 ≤ b2 ∧ b2 < m 89 4
      · rw [if_pos g2, if_neg (show ¬ (1 : Int) = 0 by decide), if_neg (show ¬ (1 : Int) = 0 by decide)]
        by_cases g3 : 0 ≤ b3 ∧ b3 ≤ 16
        · rw [if_neg (show ¬ b3 < 0 by omega), if_pos g3.2, if_pos g3, if_pos (show (1 : Int) ≠ 0 by decide)]
          refine zl_bd (zl_mono (zy_272 n hs b6.1) (fun v m' hv => zl_some ?_))
          rcases hv with ⟨k1, k2, k3⟩ | ⟨k1, k2, k3⟩
          · rw [if_neg (show ¬ s = 24 by omega)]
            refine zl_ite (fun _ => ?_) (fun _ => ?_)
            · exact zl_bd (zl_mono (zy_178 n e77 b6.1 k1) (fun w t' hw => zl_some ⟨by rw [k2, hw.1], by rw [k3, hw.2]⟩))
            · exact zl_bd (zl_mono (zy_178 n e77 b6.1 k1) (fun w t' hw => zl_some ⟨by rw [k2, hw.1], by rw [k3, hw.2]⟩))
          · rw [if_pos (show s = 24 by omega)]
            exact zl_some ⟨k2, by rw [k3, e77]⟩
        · rw [if_neg g3, if_neg (show ¬ (0 : Int) ≠ 0 by decide), ite_self]
          by_cases g4 : b3 < 0
          · rw [if_pos g4]; exact no
          · rw [if_neg g4, if_neg (show ¬ b3 ≤ 16 by omega)]; exact no
      · rw [if_neg g2, if_pos (show (0 : Int) = 0 from rfl), if_pos (show (0 : Int) = 0 from rfl), ite_self]
        exact no
    · rw [if_neg g1, if_pos (show (0 : Int) = 0 from rfl), if_pos (show (0 : Int) = 0 from rfl), ite_self]
      exact no
  obtain ⟨g1, g2⟩ := h v m1 e1 w m2 e2
  exact ⟨g1, (zdis_fr f2 d2 141 6 (by rw [zq_141]; rfl)).trans g2⟩
/-- keep, back: the image's children are the text's -/
theorem zz_keepC (n : Nat) {m m1 : zu_m} {v : Int} {W : List (Nat × Nat)} (hNA : zR_NA m) (f1 : zfr W m m1) (d1 : zdis W [(16, 5), (18, 1), (28, 16), (109, 0)] = true) (e1 : zu_call (zt_T n) 79 [(5, 3)] m = some (v, m1)) : zR_NA m1 := by
  have q := zdis_fr f1 d1
  have q15 : m1 190 15 = m 190 15 := q 190 15 (by rw [zq_190]; rfl)
  have q200 : ∀ i, 0 ≤ i → i < 4 → m1 200 i = m 200 i := fun i _ _ => q 200 i (by rw [zq_200]; rfl)
  have h : zl (zu_call (zt_T n) 79 [(5, 3)] m) (fun _ m' => m' 115 4 = m 89 4 ∧ ∀ i, 0 ≤ i → i < 4 → i < m 89 4 → m' (115 + 2 + 20 + i) 0 = m (89 + 2 + 20 + i) 0) := by
    refine zl_eq (zu_call_at (zt_T n) (zm_79 n) (zdp_79 n) _ _ _ _ _ rfl (zr_79_0 n _ _ 3 m)) ?_
    refine zl_bd (zl_mono (zy_22b n (a0 := 115) (a1 := 89) (by decide) m) (fun _ m' hs => zl_b (zl_some ⟨?_, fun i i0 i1 i2 => ?_⟩)))
    · rw [zu_up_ne (Or.inl (by decide))]; exact hs.1
    · rw [zu_up_ne (Or.inl (by omega))]; exact hs.2 i i0 i1 i2
  obtain ⟨g1, g2⟩ := h v m1 e1
  refine ⟨zNA_mv hNA.1 (q 89 4 (by rw [zq_89]; rfl)) (fun i i0 i1 => q _ 0 (by rw [zchi89 i0 i1]; rfl)) q15 q200, fun _ => ⟨by rw [g1, q15]; exact hNA.1.1, fun i i0 i1 i2 => ?_⟩⟩
  rw [q15] at i2
  rw [g2 i i0 i1 (by rw [hNA.1.1]; exact i2), q200 i i0 i1]
  exact hNA.1.2 i i0 i1 i2
theorem zz_backC (n : Nat) {m m1 : zu_m} {v : Int} {W : List (Nat × Nat)} (hI : zi_I m) (hNA : zR_NA m) (f1 : zfr W m m1) (d1 : zdis W [(2, 10), (19, 5), (21, 1), (28, 16), (109, 0)] = true) (e1 : zu_call (zt_T n) 80 [(5, 3)] m = some (v, m1)) : zR_NA m1 := by
  have q := zdis_fr f1 d1
  have b9 := zi_rd hI zq_3 zb_2_9
  have q15 : m1 190 15 = m 190 15 := q 190 15 (by rw [zq_190]; rfl)
  have q200 : ∀ i, 0 ≤ i → i < 4 → m1 200 i = m 200 i := fun i _ _ => q 200 i (by rw [zq_200]; rfl)
  have h : zl (zu_call (zt_T n) 80 [(5, 3)] m) (fun _ m' => (m 3 9 = 0 ∧ m' = m) ∨ (m 3 9 = 1 ∧ m' 89 4 = m 115 4 ∧ ∀ i, 0 ≤ i → i < 4 → i < m 115 4 → m' (89 + 2 + 20 + i) 0 = m (115 + 2 + 20 + i) 0)) := by
    refine zl_eq (zu_call_at (zt_T n) (zm_80 n) (zdp_80 n) _ _ _ _ _ rfl (zr_80_0 n _ _ 3 m)) ?_
    refine zl_ite (fun h => ?_) (fun h => zl_some (Or.inl ⟨Decidable.not_not.mp h, rfl⟩))
    refine zl_bd (zl_mono (zy_22b n (a0 := 89) (a1 := 115) (by decide) m) (fun _ m' hs => zl_bd (zl_mono (zc_28 n m') (fun _ m2 hs2 => zl_some (Or.inr ⟨by omega, ?_, fun i i0 i1 i2 => ?_⟩)))))
    · rw [hs2 _ (by decide)]; exact hs.1
    · rw [hs2 _ (by omega)]; exact hs.2 i i0 i1 i2
  have im : m1 3 9 = 1 → zNA 115 m1 := fun h9 => zNA_mv (hNA.2 (by rw [← q 3 9 (by rw [zq_3]; rfl)]; exact h9)) (q 115 4 (by rw [zq_115]; rfl)) (fun i i0 i1 => q _ 0 (by rw [zchi115 i0 i1]; rfl)) q15 q200
  rcases h v m1 e1 with ⟨-, g2⟩ | ⟨g0, g1, g2⟩
  · rw [g2]; exact hNA
  · obtain ⟨k1, k2⟩ := hNA.2 g0
    refine ⟨⟨by rw [g1, q15]; exact k1, fun i i0 i1 i2 => ?_⟩, im⟩
    rw [q15] at i2
    rw [g2 i i0 i1 (by rw [k1]; exact i2), q200 i i0 i1]
    exact k2 i i0 i1 i2

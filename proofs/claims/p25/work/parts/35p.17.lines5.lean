/-! LINES side by side: child -/
/-- childNamed and find answer alike -/
theorem zy_212 (n : Nat) {x : Int} {m : zu_m} (h4 : m 19 4 ≤ 4) : ∀ (k : Nat) (j : Int), 0 ≤ j → m 19 4 - j < (k : Int) → (∀ i, 0 ≤ i → i < j → m (21 + 20 + i) 0 ≠ x) → zw (zu_ex (zt_T n) 212 2 [(16, 19), (0, x), (0, j)] [] m) (fun v m' => m' = m ∧ ((v = -1 ∧ ∀ i, 0 ≤ i → i < m 19 4 → m (21 + 20 + i) 0 ≠ x) ∨ (0 ≤ v ∧ v < m 19 4 ∧ m (21 + 20 + v) 0 = x ∧ ∀ i, 0 ≤ i → i < v → m (21 + 20 + i) 0 ≠ x))) := by
  intro k
  induction k with
  | zero =>
    intro j h0 hk hn
    refine zw_eq (zu_rega_at (zt_T n) (zm_212 n) (zdp_212 n) _ _ _ _ _ _ (zr_212b_2 n _ _ 19 x j m)) ?_
    refine zw_ite (fun h => zw_some ⟨rfl, Or.inl ⟨rfl, fun i i0 i1 => hn i i0 (by omega)⟩⟩) (fun h => ?_)
    exfalso; omega
  | succ k ih =>
    intro j h0 hk hn
    refine zw_eq (zu_rega_at (zt_T n) (zm_212 n) (zdp_212 n) _ _ _ _ _ _ (zr_212b_2 n _ _ 19 x j m)) ?_
    refine zw_ite (fun h => zw_some ⟨rfl, Or.inl ⟨rfl, fun i i0 i1 => hn i i0 (by omega)⟩⟩) (fun h => ?_)
    refine zw_if ⟨by omega, by omega⟩ ?_
    have w := zu_w32_id (z := j + 1) (by omega) (by omega)
    rw [w]
    refine zw_ite (fun g => ?_) (fun g => ?_)
    · refine ih (j + 1) (by omega) (by omega) (fun i i0 i1 => ?_)
      by_cases e : i = j
      · rw [e]; exact g
      · exact hn i i0 (by omega)
    · exact zw_some ⟨rfl, Or.inr ⟨h0, by omega, Decidable.not_not.mp g, hn⟩⟩
theorem zy_95 (n : Nat) {a b x : Int} {t : zu_m} (ha : 0 ≤ a) (hb : b ≤ 4) (hab : a ≤ 4) : ∀ (k : Nat) (j : Int), 0 ≤ j → b - j < (k : Int) → (∀ i, 0 ≤ i → i < j → t 200 (a + i) ≠ x) → zw (zu_ex (zt_T n) 95 3 [(46, 200), (0, a), (0, b), (0, x), (0, j)] [] t) (fun v t' => t' = t ∧ ((v = -1 ∧ ∀ i, 0 ≤ i → i < b → t 200 (a + i) ≠ x) ∨ (0 ≤ v ∧ v < b ∧ t 200 (a + v) = x ∧ ∀ i, 0 ≤ i → i < v → t 200 (a + i) ≠ x))) := by
  intro k
  induction k with
  | zero =>
    intro j h0 hk hn
    refine zw_eq (zu_rega_at (zt_T n) (zm_95 n) (zdp_95 n) _ _ _ _ _ _ (zr_95_3 n _ _ 200 a b x j t)) ?_
    refine zw_ite (fun h => zw_some ⟨rfl, Or.inl ⟨rfl, fun i i0 i1 => hn i i0 (by omega)⟩⟩) (fun h => ?_)
    exfalso; omega
  | succ k ih =>
    intro j h0 hk hn
    refine zw_eq (zu_rega_at (zt_T n) (zm_95 n) (zdp_95 n) _ _ _ _ _ _ (zr_95_3 n _ _ 200 a b x j t)) ?_
    refine zw_ite (fun h => zw_some ⟨rfl, Or.inl ⟨rfl, fun i i0 i1 => hn i i0 (by omega)⟩⟩) (fun h => ?_)
    have w := zu_w32_id (z := j + 1) (by omega) (by omega)
    have w2 := zu_w32_id (z := a + j) (by omega) (by omega)
    rw [w, w2]
    refine zw_if ⟨by omega, by omega⟩ ?_
    refine zw_ite (fun g => ?_) (fun g => ?_)
    · refine ih (j + 1) (by omega) (by omega) (fun i i0 i1 => ?_)
      by_cases e : i = j
      · rw [e]; exact g
      · exact hn i i0 (by omega)
    · exact zw_some ⟨rfl, Or.inr ⟨h0, by omega, Decidable.not_not.mp g, hn⟩⟩
theorem zp_child (n : Nat) {m t : zu_m} (h : zST m t) (hS : zSYN m t) (hD : zRD m t) : zw (zu_call (zt_T n) 267 [(7, 5)] m) (fun v m' => zw (zu_call (zt_T n) 102 [(40, 190)] t) (fun w t' => zPL m t v m' w t')) := by
  obtain ⟨dw, dO, dk, de, dc, ds, dl⟩ := hD
  obtain ⟨w1, w2, w3, w4, w5, w6, w7⟩ := dw
  have b4 := zi_rd h.1 zq_19 zb_6_4
  have hle := dc.1
  refine zw_eq (zu_call_at (zt_T n) (zm_267 n) (zdp_267 n) _ _ _ _ _ rfl (zr_267_0 n _ _ 5 m)) ?_
  rw [zu_call_at (zt_T n) (zm_102 n) (zdp_102 n) _ _ _ _ _ rfl (zr_102_0 n _ _ 190 t)]
  refine zw_ite (fun hlt => ?_) (fun hlt => ?_)
  · rw [if_pos (show t 190 20 ≠ 4 by omega)]
    refine zw_swap ?_
    refine zw_bd (zw_mono (zp_tkn n h hS.1) (fun _ t1 hs => ?_))
    obtain ⟨q1, q2, q3⟩ := hs
    have u20 : t1 190 20 = t 190 20 := zfr_ap q2 zq_190 rfl
    have u17 : t1 190 17 = t 190 17 := zfr_ap q2 zq_190 rfl
    have u18 : t1 190 18 = t 190 18 := zfr_ap q2 zq_190 rfl
    have u200 : ∀ i, t1 200 i = t 200 i := fun i => zfr_ap q2 zq_200 rfl
    refine zw_swap ?_
    refine zw_bd (zw_mono (zp_adv n q1 q3) (fun _ m1 hs => ?_))
    obtain ⟨h1, hf1, ⟨s1, s2, s3, s4, -⟩, hpos⟩ := hs
    have e19 : m1 19 4 = m 19 4 := zfr_ap hf1 zq_19 rfl
    have eL : ∀ i, 0 ≤ i → i < 4 → m1 (21 + 20 + i) 0 = m (21 + 20 + i) 0 := fun i i0 i1 => zfr_ap hf1 (zchi i0 i1) rfl
    unfold zKV at s3
    refine zw_ite (fun hk => ?_) (fun hk => ?_)
    · rw [if_pos (show t1 190 8 = 2 by omega)]
      have hv : m1 45 5 = t1 190 9 := by omega
      refine zw_bd (zw_mono (show zw (zu_call (zt_T n) 212 [(16, 19), (0, m1 45 5)] m1) _ from zw_eq (zu_call_at (zt_T n) (zm_212 n) (zdp_212 n) _ _ _ _ _ rfl (zr_212b_0 n _ _ 19 (m1 45 5) m1)) (zy_212 n (x := m1 45 5) (m := m1) (by omega) 6 0 (by omega) (by omega) (fun i i0 i1 => by exfalso; omega))) (fun v s hsv => ?_))
      obtain ⟨rfl, hv1⟩ := hsv
      refine zw_swap ?_
      refine zw_bd (zw_mono (show zw (zu_call (zt_T n) 95 [(46, 200), (0, 4), (0, t1 190 20), (0, t1 190 9)] t1) _ from zw_eq (zu_call_at (zt_T n) (zm_95 n) (zdp_95 n) _ _ _ _ _ rfl (zr_95_0 n _ _ 200 4 (t1 190 20) (t1 190 9) t1)) (zy_95 n (a := 4) (b := t1 190 20) (x := t1 190 9) (t := t1) (by omega) (by omega) (by omega) 6 0 (by omega) (by omega) (fun i i0 i1 => by exfalso; omega))) (fun w s2' hsw => ?_))
      obtain ⟨rfl, hw1⟩ := hsw
      refine zw_swap ?_
      have hL : ∀ i, 0 ≤ i → i < s 19 4 → s (21 + 20 + i) 0 = s2' 200 (4 + i) := fun i i0 i1 => by
        rw [eL i i0 (by omega), u200]
        exact (dc.2 i i0 (by omega)).1
      refine zw_ite (fun hn => ?_) (fun hn => ?_)
      · have hno : ∀ i, 0 ≤ i → i < s 19 4 → s (21 + 20 + i) 0 ≠ s 45 5 := by
          rcases hv1 with hv1 | hv1
          · exact hv1.2
          · exfalso; omega
        have hw0 : w < 0 := by
          rcases hw1 with hw1 | ⟨g0, g1, g2, -⟩
          · omega
          · have := hno w g0 (by omega)
            rw [hL w g0 (by omega), g2] at this
            exact absurd hv.symm this
        rw [if_pos hw0]
        refine zw_if ⟨by omega, by omega⟩ ?_
        have ws := zu_w32_id (z := 4 + t 190 20) (by omega) (by omega)
        have hidx : 0 ≤ 4 + t 190 20 ∧ 4 + t 190 20 < 8 := by omega
        rw [u20, ws, if_pos hidx, e19]
        have hc8 : zcls (21 + 20 + m 19 4) = 8 := zchi (by omega) (by omega)
        generalize hm2 : zu_up s (21 + 20 + m 19 4) 0 (s 45 5) = m2
        generalize hm3 : zu_up m2 (21 + 20 + m 19 4) 5 0 = m3
        generalize hm4 : zu_up m3 (21 + 20 + m 19 4) 6 0 = m4
        generalize ht2 : zu_up s2' 200 (4 + t 190 20) (s2' 190 9) = t2
        have bb := zi_rd h1.1 zq_45 zb_9_5
        have bb2 := zi_rd h1.2.1 zq_190 zb_28_9
        have hI2 := zi_up hm2 h1.1 hc8 zb_8_0 (by omega) (by omega)
        have hI3 := zi_up hm3 hI2 hc8 zb_8_5 (by omega) (by omega)
        have hI4 := zi_up hm4 hI3 hc8 zb_8_6 (by omega) (by omega)
        have hf2 : zfr [(8, 1)] s m2 := zfr_up hm2 (zfr_rf _ _) hc8 rfl
        have hf3 : zfr [(8, 6)] m2 m3 := zfr_up hm3 (zfr_rf _ _) hc8 rfl
        have hf4 : zfr [(8, 7)] m3 m4 := zfr_up hm4 (zfr_rf _ _) hc8 rfl
        have hJ2 := zi_up ht2 h1.2.1 zq_200 (zb_109 _) (by omega) (by omega)
        have hft2 : zfr [(109, 0)] s2' t2 := zfr_up ht2 (zfr_rf _ _) zq_200 rfl
        have hF4 : zfr [(9, 4), (9, 5), (9, 6), (9, 7), (8, 1), (8, 6), (8, 7)] m m4 := zfr_tr (zfr_tr (zfr_tr (zfr_tr (zfr_rf _ m) hf1 rfl) hf2 rfl) hf3 rfl) hf4 rfl
        have k3 : m4 45 3 = s 45 3 := ((zfr_ap hf4 zq_45 rfl).trans (zfr_ap hf3 zq_45 rfl)).trans (zfr_ap hf2 zq_45 rfl)
        have k7 : t2 190 7 = s2' 190 7 := zfr_ap hft2 zq_190 rfl
        have hST4 := zST_r (zST_l (zST_l (zST_l h1 hI2 hf2 rfl) hI3 hf3 rfl) hI4 hf4 rfl) hJ2 hft2 rfl
        refine zw_swap ?_
        refine zw_bd (zw_mono (zp_tkn n hST4 (by rw [k3, k7]; exact s1)) (fun _ t3 hs3 => ?_))
        obtain ⟨r1, r2, r3⟩ := hs3
        refine zw_swap ?_
        have v17 : t3 190 17 = t 190 17 := ((zfr_ap r2 zq_190 rfl).trans (zfr_ap hft2 zq_190 rfl)).trans u17
        have v18 : t3 190 18 = t 190 18 := ((zfr_ap r2 zq_190 rfl).trans (zfr_ap hft2 zq_190 rfl)).trans u18
        have c0 : m4 6 0 = m 6 0 := zfr_ap hF4 zq_6 rfl
        have c1 : m4 6 1 = m 6 1 := zfr_ap hF4 zq_6 rfl
        refine zw_pair (zp_cell n r1 r3 (by omega) (by omega)) (fun v5 m5 w5' t5 hp => ?_)
        rcases hp with ⟨rfl, rfl, hF⟩ | ⟨rfl, rfl, h5, hl5, hf5, hft5, p5, g4, g5, g6, g7, g8, g9⟩
        · rw [if_pos (show (0 : Int) = 0 from rfl), if_neg (show ¬ (0 : Int) ≠ 0 by decide), zu_b0, zu_b0]
          exact zw_some (zw_some (zPL_0 hF))
        rw [if_neg (show ¬ (1 : Int) = 0 by decide), if_pos (show (1 : Int) ≠ 0 by decide), if_pos hidx]
        generalize ht6 : zu_up t5 201 (4 + t 190 20) (t5 190 11) = t6
        have hJ6 := zi_up ht6 h5.2.1 zq_201 (zb_110 _) (by omega) (by omega)
        have hft6 : zfr [(110, 0)] t5 t6 := zfr_up ht6 (zfr_rf _ _) zq_201 rfl
        refine zw_pair (zp_num n (zST_r h5 hJ6 hft6 rfl) (zLAG_r hl5 hft6 rfl) (by omega) (by omega)) (fun v7 m7 w7' t7 hp => ?_)
        rcases hp with ⟨rfl, rfl, hF⟩ | ⟨rfl, rfl, h7, hl7, hf7, hft7, p7, g10, g11, g12, g13⟩
        · rw [if_neg (show ¬ (0 : Int) ≠ 0 by decide), if_neg (show ¬ (0 : Int) ≠ 0 by decide), zu_b0, zu_b0]
          exact zw_some (zw_some (zPL_0 hF))
        rw [if_pos (show (1 : Int) ≠ 0 by decide), if_pos (show (1 : Int) ≠ 0 by decide), if_pos hidx]
        generalize hm8 : zu_up m7 (21 + 20 + m 19 4) 1 (m7 5 8) = m8
        have e87 : m8 5 7 = m7 5 7 := zs_ne hm8 (Or.inl (by omega))
        rw [e87]
        generalize hm9 : zu_up m8 (21 + 20 + m 19 4) 2 (m7 5 7) = m9
        generalize ht8 : zu_up t7 202 (4 + t 190 20) (t7 190 11) = t8
        have e58 : m7 5 8 = m5 5 8 := zfr_ap hf7 zq_5 rfl
        have hI8 := zi_up hm8 h7.1 hc8 zb_8_1 (by omega) (by omega)
        have hI9 := zi_up hm9 hI8 hc8 zb_8_2 (by omega) (by omega)
        have hf8 : zfr [(8, 2)] m7 m8 := zfr_up hm8 (zfr_rf _ _) hc8 rfl
        have hf9 : zfr [(8, 3)] m8 m9 := zfr_up hm9 (zfr_rf _ _) hc8 rfl
        have hJ8 := zi_up ht8 h7.2.1 zq_202 (zb_111 _) (by omega) (by omega)
        have hft8 : zfr [(111, 0)] t7 t8 := zfr_up ht8 (zfr_rf _ _) zq_202 rfl
        have hST9 := zST_r (zST_l (zST_l h7 hI8 hf8 rfl) hI9 hf9 rfl) hJ8 hft8 rfl
        have hL9 := zLAG_r (zLAG_l (zLAG_l hl7 hf8 rfl) hf9 rfl) hft8 rfl
        refine zw_pair (zp_num n hST9 hL9 (by omega) (by omega)) (fun v10 m10 w10' t10 hp => ?_)
        rcases hp with ⟨rfl, rfl, hF⟩ | ⟨rfl, rfl, h10, hl10, hf10, hft10, p10, g14, g15, g16, g17⟩
        · rw [if_neg (show ¬ (0 : Int) ≠ 0 by decide), if_neg (show ¬ (0 : Int) ≠ 0 by decide), zu_b0, zu_b0]
          exact zw_some (zw_some (zPL_0 hF))
        rw [if_pos (show (1 : Int) ≠ 0 by decide), if_pos (show (1 : Int) ≠ 0 by decide), if_pos hidx]
        generalize hm11 : zu_up m10 (21 + 20 + m 19 4) 3 (m10 5 7) = m11
        generalize ht11 : zu_up t10 203 (4 + t 190 20) (t10 190 11) = t11
        have hI11 := zi_up hm11 h10.1 hc8 zb_8_3 (by omega) (by omega)
        have hf11 : zfr [(8, 4)] m10 m11 := zfr_up hm11 (zfr_rf _ _) hc8 rfl
        have hJ11 := zi_up ht11 h10.2.1 zq_203 (zb_112 _) (by omega) (by omega)
        have hft11 : zfr [(112, 0)] t10 t11 := zfr_up ht11 (zfr_rf _ _) zq_203 rfl
        refine zw_pair (zp_num n (zST_r (zST_l h10 hI11 hf11 rfl) hJ11 hft11 rfl) (zLAG_r (zLAG_l hl10 hf11 rfl) hft11 rfl) (by omega) (by omega)) (fun v12 m12 w12' t12 hp => ?_)
        rcases hp with ⟨rfl, rfl, hF⟩ | ⟨rfl, rfl, h12, hl12, hf12, hft12, p12, g18, g19, g20, g21⟩
        · rw [if_neg (show ¬ (0 : Int) ≠ 0 by decide), if_neg (show ¬ (0 : Int) ≠ 0 by decide), zu_b0, zu_b0]
          exact zw_some (zw_some (zPL_0 hF))
        rw [if_pos (show (1 : Int) ≠ 0 by decide), if_pos (show (1 : Int) ≠ 0 by decide), if_pos hidx, zu_b1, zu_b1]
        generalize hm13 : zu_up m12 (21 + 20 + m 19 4) 4 (m12 5 7) = m13
        generalize ht13 : zu_up t12 204 (4 + t 190 20) (t12 190 11) = t13
        have hI13 := zi_up hm13 h12.1 hc8 zb_8_4 (by omega) (by omega)
        have hf13 : zfr [(8, 5)] m12 m13 := zfr_up hm13 (zfr_rf _ _) hc8 rfl
        have hJ13 := zi_up ht13 h12.2.1 zq_204 (zb_113 _) (by omega) (by omega)
        have hft13 : zfr [(113, 0)] t12 t13 := zfr_up ht13 (zfr_rf _ _) zq_204 rfl
        have hF13 : zfr [(3, 7), (3, 8), (3, 9), (9, 4), (9, 5), (9, 6), (9, 7), (8, 1), (8, 2), (8, 3), (8, 4), (8, 5), (8, 6), (8, 7)] m m13 := zfr_tr (zfr_tr (zfr_tr (zfr_tr (zfr_tr (zfr_tr (zfr_tr (zfr_tr (zfr_tr (zfr_rf _ m) hF4 rfl) hf5 rfl) hf7 rfl) hf8 rfl) hf9 rfl) hf10 rfl) hf11 rfl) hf12 rfl) hf13 rfl
        have hT13 : zfr [(28, 8), (28, 9), (28, 10), (28, 11), (28, 12), (28, 24), (28, 43), (109, 0), (110, 0), (111, 0), (112, 0), (113, 0)] t t13 := zfr_tr (zfr_tr (zfr_tr (zfr_tr (zfr_tr (zfr_tr (zfr_tr (zfr_tr (zfr_tr (zfr_tr (zfr_tr (zfr_rf _ t) q2 rfl) hft2 rfl) r2 rfl) hft5 rfl) hft6 rfl) hft7 rfl) hft8 rfl) hft10 rfl) hft11 rfl) hft12 rfl) hft13 rfl
        have e194 : m13 19 4 = m 19 4 := zfr_ap hF13 zq_19 rfl
        have e20 : t13 190 20 = t 190 20 := zfr_ap hT13 zq_190 rfl
        have ws4 := zu_w32_id (z := m 19 4 + 1) (by omega) (by omega)
        have ws5 := zu_w32_id (z := t 190 20 + 1) (by omega) (by omega)
        rw [e194, e20, ws4, ws5]
        generalize hm14 : zu_up m13 19 4 (m 19 4 + 1) = m14
        generalize ht14 : zu_up t13 190 20 (t 190 20 + 1) = t14
        have hI14 := zi_up hm14 hI13 zq_19 zb_6_4 (by omega) (by omega)
        have hf14 : zfr [(6, 5)] m13 m14 := zfr_up hm14 (zfr_rf _ _) zq_19 rfl
        have hJ14 := zi_up ht14 hJ13 zq_190 zb_28_20 (by omega) (by omega)
        have hft14 : zfr [(28, 21)] t13 t14 := zfr_up ht14 (zfr_rf _ _) zq_190 rfl
        have hFm : zfr [(3, 7), (3, 8), (3, 9), (9, 4), (9, 5), (9, 6), (9, 7), (8, 1), (8, 2), (8, 3), (8, 4), (8, 5), (8, 6), (8, 7), (6, 5)] m m14 := zfr_tr (zfr_tr (zfr_rf _ m) hF13 rfl) hf14 rfl
        have hFt : zfr [(28, 8), (28, 9), (28, 10), (28, 11), (28, 12), (28, 24), (28, 43), (28, 21), (109, 0), (110, 0), (111, 0), (112, 0), (113, 0)] t t14 := zfr_tr (zfr_tr (zfr_rf _ t) hT13 rfl) hft14 rfl
        refine zw_some (zw_some (Or.inr ⟨rfl, rfl, ?_, ?_, ⟨?_, ?_, ?_, ?_, ?_, ?_, ?_⟩, zKF_fr hFm hFt rfl rfl, ?_⟩))
        · exact zST_r (zST_l (zST_r (zST_l h12 hI13 hf13 rfl) hJ13 hft13 rfl) hI14 hf14 rfl) hJ14 hft14 rfl
        · exact zLAG_r (zLAG_l (zLAG_r (zLAG_l hl12 hf13 rfl) hft13 rfl) hf14 rfl) hft14 rfl
        · refine ⟨?_, ?_, ?_, ?_, ?_, ?_, ?_⟩
          · rw [show m14 6 0 = m 6 0 from zfr_ap hFm zq_6 rfl, show t14 190 17 = t 190 17 from zfr_ap hFt zq_190 rfl]; exact w1
          · rw [show m14 6 1 = m 6 1 from zfr_ap hFm zq_6 rfl, show t14 190 18 = t 190 18 from zfr_ap hFt zq_190 rfl]; exact w2
          · rw [show m14 5 6 = m5 5 6 from (((((((zfr_ap hf14 zq_5 rfl).trans (zfr_ap hf13 zq_5 rfl)).trans (zfr_ap hf12 zq_5 rfl)).trans (zfr_ap hf11 zq_5 rfl)).trans (zfr_ap hf10 zq_5 rfl)).trans (zfr_ap hf9 zq_5 rfl)).trans (zfr_ap hf8 zq_5 rfl)).trans (zfr_ap hf7 zq_5 rfl), show t14 190 23 = t5 190 23 from (((((((zfr_ap hft14 zq_190 rfl).trans (zfr_ap hft13 zq_190 rfl)).trans (zfr_ap hft12 zq_190 rfl)).trans (zfr_ap hft11 zq_190 rfl)).trans (zfr_ap hft10 zq_190 rfl)).trans (zfr_ap hft8 zq_190 rfl)).trans (zfr_ap hft7 zq_190 rfl)).trans (zfr_ap hft6 zq_190 rfl), g7, g8]
          · rw [show m14 5 5 = m 5 5 from zfr_ap hFm zq_5 rfl, show t14 190 22 = t 190 22 from zfr_ap hFt zq_190 rfl]; exact w4
          · rw [show m14 19 2 = m 19 2 from zfr_ap hFm zq_19 rfl, show t14 190 19 = t 190 19 from zfr_ap hFt zq_190 rfl]; exact w5
          · rw [zs_eq hm14, zs_eq ht14]; omega
          · rw [show m14 10 5 = m 10 5 from zfr_ap hFm zq_10 rfl, show t14 190 48 = t 190 48 from zfr_ap hFt zq_190 rfl]; exact w7
        · exact zDo_fr dO hFm hFt rfl rfl
        · exact zDk_fr dk hFm hFt rfl rfl
        · exact zDe_fr de hFm hFt rfl rfl
        · rw [zDc, zs_eq hm14]
          refine ⟨by omega, fun k k0 k1 => ?_⟩
          have n0 : ∀ p, m14 (21 + 20 + k) p = m13 (21 + 20 + k) p := fun p => zs_ne hm14 (Or.inl (by omega))
          have t200 : ∀ i, t14 200 i = t2 200 i := fun i => (((((((((zfr_ap hft14 zq_200 rfl).trans (zfr_ap hft13 zq_200 rfl)).trans (zfr_ap hft12 zq_200 rfl)).trans (zfr_ap hft11 zq_200 rfl)).trans (zfr_ap hft10 zq_200 rfl)).trans (zfr_ap hft8 zq_200 rfl)).trans (zfr_ap hft7 zq_200 rfl)).trans (zfr_ap hft6 zq_200 rfl)).trans (zfr_ap hft5 zq_200 rfl)).trans (zfr_ap r2 zq_200 rfl)
          have t201 : ∀ i, t14 201 i = t6 201 i := fun i => ((((((zfr_ap hft14 zq_201 rfl).trans (zfr_ap hft13 zq_201 rfl)).trans (zfr_ap hft12 zq_201 rfl)).trans (zfr_ap hft11 zq_201 rfl)).trans (zfr_ap hft10 zq_201 rfl)).trans (zfr_ap hft8 zq_201 rfl)).trans (zfr_ap hft7 zq_201 rfl)
          have t202 : ∀ i, t14 202 i = t8 202 i := fun i => ((((zfr_ap hft14 zq_202 rfl).trans (zfr_ap hft13 zq_202 rfl)).trans (zfr_ap hft12 zq_202 rfl)).trans (zfr_ap hft11 zq_202 rfl)).trans (zfr_ap hft10 zq_202 rfl)
          have t203 : ∀ i, t14 203 i = t11 203 i := fun i => ((zfr_ap hft14 zq_203 rfl).trans (zfr_ap hft13 zq_203 rfl)).trans (zfr_ap hft12 zq_203 rfl)
          have t204 : ∀ i, t14 204 i = t13 204 i := fun i => zfr_ap hft14 zq_204 rfl
          have hck : zcls (21 + 20 + k) = 8 := zchi k0 (by omega)
          by_cases e : k = m 19 4
          · subst e
            have a0 : m14 (21 + 20 + m 19 4) 0 = s 45 5 := by
              rw [n0]
              exact ((((((((((zfr_ap hf13 hc8 rfl).trans (zfr_ap hf12 hc8 rfl)).trans (zfr_ap hf11 hc8 rfl)).trans (zfr_ap hf10 hc8 rfl)).trans (zfr_ap hf9 hc8 rfl)).trans (zfr_ap hf8 hc8 rfl)).trans (zfr_ap hf7 hc8 rfl)).trans (zfr_ap hf5 hc8 rfl)).trans (zfr_ap hf4 hc8 rfl)).trans (zfr_ap hf3 hc8 rfl)).trans (zs_eq hm2)
            have a5 : m14 (21 + 20 + m 19 4) 5 = 0 := by
              rw [n0]
              exact (((((((((zfr_ap hf13 hc8 rfl).trans (zfr_ap hf12 hc8 rfl)).trans (zfr_ap hf11 hc8 rfl)).trans (zfr_ap hf10 hc8 rfl)).trans (zfr_ap hf9 hc8 rfl)).trans (zfr_ap hf8 hc8 rfl)).trans (zfr_ap hf7 hc8 rfl)).trans (zfr_ap hf5 hc8 rfl)).trans (zfr_ap hf4 hc8 rfl)).trans (zs_eq hm3)
            have a6 : m14 (21 + 20 + m 19 4) 6 = 0 := by
              rw [n0]
              exact ((((((((zfr_ap hf13 hc8 rfl).trans (zfr_ap hf12 hc8 rfl)).trans (zfr_ap hf11 hc8 rfl)).trans (zfr_ap hf10 hc8 rfl)).trans (zfr_ap hf9 hc8 rfl)).trans (zfr_ap hf8 hc8 rfl)).trans (zfr_ap hf7 hc8 rfl)).trans (zfr_ap hf5 hc8 rfl)).trans (zs_eq hm4)
            have a1 : m14 (21 + 20 + m 19 4) 1 = m7 5 8 := by
              rw [n0]
              exact (((((zfr_ap hf13 hc8 rfl).trans (zfr_ap hf12 hc8 rfl)).trans (zfr_ap hf11 hc8 rfl)).trans (zfr_ap hf10 hc8 rfl)).trans (zfr_ap hf9 hc8 rfl)).trans (zs_eq hm8)
            have a2 : m14 (21 + 20 + m 19 4) 2 = m7 5 7 := by
              rw [n0]
              exact ((((zfr_ap hf13 hc8 rfl).trans (zfr_ap hf12 hc8 rfl)).trans (zfr_ap hf11 hc8 rfl)).trans (zfr_ap hf10 hc8 rfl)).trans (zs_eq hm9)
            have a3 : m14 (21 + 20 + m 19 4) 3 = m10 5 7 := by
              rw [n0]
              exact ((zfr_ap hf13 hc8 rfl).trans (zfr_ap hf12 hc8 rfl)).trans (zs_eq hm11)
            have a4 : m14 (21 + 20 + m 19 4) 4 = m12 5 7 := by
              rw [n0]
              exact zs_eq hm13
            rw [a0, a1, a2, a3, a4, a5, a6, t200, t201, t202, t203, t204, w6, zs_eq ht2, zs_eq ht6, zs_eq ht8, zs_eq ht11, zs_eq ht13]
            exact ⟨hv, by omega, g12, g16, g20, rfl, rfl⟩
          · have kc := dc.2 k k0 (by omega)
            have hne : ∀ (p q v : Int) (a b : zu_m), zu_up a (21 + 20 + m 19 4) q v = b → b (21 + 20 + k) p = a (21 + 20 + k) p := fun p q v a b hab => zs_ne hab (Or.inl (by omega))
            have mm : ∀ p, zin [(3, 7), (3, 8), (3, 9), (9, 4), (9, 5), (9, 6), (9, 7)] 8 p = false → m14 (21 + 20 + k) p = m (21 + 20 + k) p := fun p hp => by
              have f1 : ∀ {W : List (Nat × Nat)} {a b : zu_m}, zfr W a b → zin W 8 p = false → b (21 + 20 + k) p = a (21 + 20 + k) p := fun hab hz => zfr_ap hab hck hz
              rw [n0, hne p _ _ _ _ hm13, f1 hf12 rfl, hne p _ _ _ _ hm11, f1 hf10 rfl, hne p _ _ _ _ hm9, hne p _ _ _ _ hm8, f1 hf7 rfl, f1 hf5 rfl, hne p _ _ _ _ hm4, hne p _ _ _ _ hm3, hne p _ _ _ _ hm2, f1 hf1 rfl]
            have s0 : t14 200 (4 + k) = t 200 (4 + k) := by rw [t200, zs_ne ht2 (Or.inr (by omega)), u200]
            have s1' : t14 201 (4 + k) = t 201 (4 + k) := by
              rw [t201, zs_ne ht6 (Or.inr (by omega))]
              exact (((zfr_ap hft5 zq_201 rfl).trans (zfr_ap r2 zq_201 rfl)).trans (zfr_ap hft2 zq_201 rfl)).trans (zfr_ap q2 zq_201 rfl)
            have s2'' : t14 202 (4 + k) = t 202 (4 + k) := by
              rw [t202, zs_ne ht8 (Or.inr (by omega))]
              exact (((((zfr_ap hft7 zq_202 rfl).trans (zfr_ap hft6 zq_202 rfl)).trans (zfr_ap hft5 zq_202 rfl)).trans (zfr_ap r2 zq_202 rfl)).trans (zfr_ap hft2 zq_202 rfl)).trans (zfr_ap q2 zq_202 rfl)
            have s3' : t14 203 (4 + k) = t 203 (4 + k) := by
              rw [t203, zs_ne ht11 (Or.inr (by omega))]
              exact (((((((zfr_ap hft10 zq_203 rfl).trans (zfr_ap hft8 zq_203 rfl)).trans (zfr_ap hft7 zq_203 rfl)).trans (zfr_ap hft6 zq_203 rfl)).trans (zfr_ap hft5 zq_203 rfl)).trans (zfr_ap r2 zq_203 rfl)).trans (zfr_ap hft2 zq_203 rfl)).trans (zfr_ap q2 zq_203 rfl)
            have s4' : t14 204 (4 + k) = t 204 (4 + k) := by
              rw [t204, zs_ne ht13 (Or.inr (by omega))]
              exact (((((((((zfr_ap hft12 zq_204 rfl).trans (zfr_ap hft11 zq_204 rfl)).trans (zfr_ap hft10 zq_204 rfl)).trans (zfr_ap hft8 zq_204 rfl)).trans (zfr_ap hft7 zq_204 rfl)).trans (zfr_ap hft6 zq_204 rfl)).trans (zfr_ap hft5 zq_204 rfl)).trans (zfr_ap r2 zq_204 rfl)).trans (zfr_ap hft2 zq_204 rfl)).trans (zfr_ap q2 zq_204 rfl)
            rw [mm 0 rfl, mm 1 rfl, mm 2 rfl, mm 3 rfl, mm 4 rfl, mm 5 rfl, mm 6 rfl, s0, s1', s2'', s3', s4']
            exact kc
        · exact zDs_fr ds hFm hFt rfl rfl
        · exact zDl_fr dl hFm hFt rfl rfl
        · have e1 : m14 45 3 = m12 45 3 := (zfr_ap hf14 zq_45 rfl).trans (zfr_ap hf13 zq_45 rfl)
          have e2 : m11 45 3 = m10 45 3 := zfr_ap hf11 zq_45 rfl
          have e3 : m9 45 3 = m7 45 3 := (zfr_ap hf9 zq_45 rfl).trans (zfr_ap hf8 zq_45 rfl)
          omega
      · have hw0 : ¬ w < 0 := by
          rcases hv1 with ⟨q, -⟩ | ⟨g0, g1, g2, -⟩
          · exact absurd q hn
          · rcases hw1 with ⟨-, hno⟩ | hw1
            · have := hno v g0 (by omega)
              rw [← hL v g0 g1, g2] at this
              exact absurd hv this
            · omega
        rw [if_neg hw0, zc_257, zu_bds, zu_b0, zc_85, zu_bds, zu_b0]
        exact zw_some (zw_some (zPL_0 (zFLT_of (by decide) s2)))
    · rw [if_neg (show ¬ t1 190 8 = 2 by omega), zc_257, zu_bds, zu_b0, zc_85, zu_bds, zu_b0]
      exact zw_some (zw_some (zPL_0 (zFLT_of (by decide) s2)))
  · rw [if_neg (show ¬ t 190 20 ≠ 4 by omega), zc_257, zu_bds, zu_b0, zc_85, zu_bds, zu_b0]
    exact zw_some (zw_some (zPL_0 (zFLT_of (by decide) hS.2.1)))

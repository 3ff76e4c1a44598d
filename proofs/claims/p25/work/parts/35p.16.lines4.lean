/-! LINES side by side: egg -/
theorem zc_213 (n : Nat) {a b c : Int} {m : zu_m} (h0 : 0 ≤ m 19 2) (h1 : m 19 2 < 16) : zu_call (zt_T n) 213 [(16, 19), (0, a), (0, b), (0, c)] m = some (0, zu_up (zu_up (zu_up (zu_up (zu_up m (20 + 5 + m 19 2) 0 a) (20 + 5 + m 19 2) 1 b) (20 + 5 + m 19 2) 2 c) (20 + 5 + m 19 2) 3 (-1)) 19 2 (m 19 2 + 1)) := by
  have hne : ∀ (m1 : zu_m) (p v : Int), zu_up m1 (20 + 5 + m 19 2) p v 19 2 = m1 19 2 := fun m1 p v => zu_up_ne (Or.inl (by omega))
  have w := zu_w32_id (z := m 19 2 + 1) (by omega) (by omega)
  rw [zu_call_at (zt_T n) (zm_213 n) (zdp_213 n) _ _ _ _ _ rfl (zr_213b_0 n _ _ 19 a b c m), if_neg (by omega), if_pos ⟨h0, h1⟩, hne, hne, hne, hne, w]
theorem zp_egg (n : Nat) {m t : zu_m} (h : zST m t) (hS : zSYN m t) (hD : zRD m t) : zw (zu_call (zt_T n) 266 [(7, 5)] m) (fun v m' => zw (zu_call (zt_T n) 101 [(40, 190)] t) (fun w t' => zPL m t v m' w t')) := by
  obtain ⟨dw, dO, dk, de, dc, ds, dl⟩ := hD
  obtain ⟨w1, w2, w3, w4, w5, w6, w7⟩ := dw
  have b2 := zi_rd h.1 zq_19 zb_6_2
  have hle := de.1
  refine zw_eq (zu_call_at (zt_T n) (zm_266 n) (zdp_266 n) _ _ _ _ _ rfl (zr_266_0 n _ _ 5 m)) ?_
  rw [zu_call_at (zt_T n) (zm_101 n) (zdp_101 n) _ _ _ _ _ rfl (zr_101_0 n _ _ 190 t)]
  refine zw_ite (fun hlt => ?_) (fun hlt => ?_)
  · rw [if_pos (show t 190 19 ≠ 12 by omega)]
    refine zw_swap ?_
    refine zw_bd (zw_mono (zp_tkn n h hS.1) (fun _ t1 hs => ?_))
    obtain ⟨q1, q2, q3⟩ := hs
    have u19 : t1 190 19 = t 190 19 := zfr_ap q2 zq_190 rfl
    have u17 : t1 190 17 = t 190 17 := zfr_ap q2 zq_190 rfl
    have u18 : t1 190 18 = t 190 18 := zfr_ap q2 zq_190 rfl
    have ws := zu_w32_id (z := 18 + t 190 19) (by omega) (by omega)
    have hidx : 0 ≤ 18 + t 190 19 ∧ 18 + t 190 19 < 36 := by omega
    rw [u19, ws]
    refine zw_swap ?_
    refine zw_pair (zp_pick n q1 q3 (a := 12) (k := 4) (by omega) (by omega)) (fun v m2 w t2 hp => ?_)
    rcases hp with ⟨rfl, rfl, hF⟩ | ⟨rfl, rfl, h2, hl2, hf2, hft2, p2, g1, g2, g3⟩
    · rw [if_neg (show ¬ (0 : Int) ≠ 0 by decide), if_neg (show ¬ (0 : Int) ≠ 0 by decide), zu_b0, zu_b0]
      exact zw_some (zw_some (zPL_0 hF))
    rw [if_pos (show (1 : Int) ≠ 0 by decide), if_pos (show (1 : Int) ≠ 0 by decide), if_pos hidx]
    generalize ht3 : zu_up t2 198 (18 + t 190 19) (t2 190 11) = t3
    have hJ3 := zi_up ht3 h2.2.1 zq_198 (zb_107 _) (by omega) (by omega)
    have hft3 : zfr [(107, 0)] t2 t3 := zfr_up ht3 (zfr_rf _ _) zq_198 rfl
    have v17 : t3 190 17 = t 190 17 := ((zfr_ap hft3 zq_190 rfl).trans (zfr_ap hft2 zq_190 rfl)).trans u17
    have v18 : t3 190 18 = t 190 18 := ((zfr_ap hft3 zq_190 rfl).trans (zfr_ap hft2 zq_190 rfl)).trans u18
    have c0 : m2 6 0 = m 6 0 := zfr_ap hf2 zq_6 rfl
    have c1 : m2 6 1 = m 6 1 := zfr_ap hf2 zq_6 rfl
    refine zw_pair (zp_cell n (zST_r h2 hJ3 hft3 rfl) (zLAG_r hl2 hft3 rfl) (by omega) (by omega)) (fun v m4 w t4 hp => ?_)
    rcases hp with ⟨rfl, rfl, hF⟩ | ⟨rfl, rfl, h4, hl4, hf4, hft4, p4, g4, g5, g6, g7, g8, g9⟩
    · rw [if_pos (show (0 : Int) = 0 from rfl), if_neg (show ¬ (0 : Int) ≠ 0 by decide), zu_b0, zu_b0]
      exact zw_some (zw_some (zPL_0 hF))
    rw [if_neg (show ¬ (1 : Int) = 0 by decide), if_pos (show (1 : Int) ≠ 0 by decide), if_pos hidx]
    generalize ht5 : zu_up t4 197 (18 + t 190 19) (t4 190 11) = t5
    have hJ5 := zi_up ht5 h4.2.1 zq_197 (zb_106 _) (by omega) (by omega)
    have hft5 : zfr [(106, 0)] t4 t5 := zfr_up ht5 (zfr_rf _ _) zq_197 rfl
    refine zw_pair (zp_num n (zST_r h4 hJ5 hft5 rfl) (zLAG_r hl4 hft5 rfl) (by omega) (by omega)) (fun v m6 w t6 hp => ?_)
    rcases hp with ⟨rfl, rfl, hF⟩ | ⟨rfl, rfl, h6, hl6, hf6, hft6, p6, g10, g11, g12, g13⟩
    · rw [if_neg (show ¬ (0 : Int) ≠ 0 by decide), if_neg (show ¬ (0 : Int) ≠ 0 by decide), zu_b0, zu_b0]
      exact zw_some (zw_some (zPL_0 hF))
    rw [if_pos (show (1 : Int) ≠ 0 by decide), if_pos (show (1 : Int) ≠ 0 by decide), if_pos hidx]
    have hF6 : zfr [(3, 7), (3, 8), (3, 9), (9, 4), (9, 5), (9, 6), (9, 7)] m m6 := zfr_tr (zfr_tr (zfr_tr (zfr_rf _ m) hf2 rfl) hf4 rfl) hf6 rfl
    have e19 : m6 19 2 = m 19 2 := zfr_ap hF6 zq_19 rfl
    have e58 : m6 5 8 = m4 5 8 := zfr_ap hf6 zq_5 rfl
    rw [zc_213 n (by omega) (by omega), zu_bds, zu_b1, e19]
    generalize hm7 : zu_up m6 (20 + 5 + m 19 2) 0 (m6 5 8) = m7
    generalize hm8 : zu_up m7 (20 + 5 + m 19 2) 1 (m2 5 7) = m8
    generalize hm9 : zu_up m8 (20 + 5 + m 19 2) 2 (m6 5 7) = m9
    generalize hm10 : zu_up m9 (20 + 5 + m 19 2) 3 (-1) = m10
    generalize hm11 : zu_up m10 19 2 (m 19 2 + 1) = m11
    have hc7 : zcls (20 + 5 + m 19 2) = 7 := zegg (by omega) (by omega)
    have hI7 := zi_up hm7 h6.1 hc7 zb_7_0 (by omega) (by omega)
    have hI8 := zi_up hm8 hI7 hc7 zb_7_1 (by omega) (by omega)
    have hI9 := zi_up hm9 hI8 hc7 zb_7_2 (by omega) (by omega)
    have hI10 := zi_up hm10 hI9 hc7 zb_7_3 (by omega) (by omega)
    have hI11 := zi_up hm11 hI10 zq_19 zb_6_2 (by omega) (by omega)
    have hf7 : zfr [(7, 1)] m6 m7 := zfr_up hm7 (zfr_rf _ _) hc7 rfl
    have hf8 : zfr [(7, 2)] m7 m8 := zfr_up hm8 (zfr_rf _ _) hc7 rfl
    have hf9 : zfr [(7, 3)] m8 m9 := zfr_up hm9 (zfr_rf _ _) hc7 rfl
    have hf10 : zfr [(7, 4)] m9 m10 := zfr_up hm10 (zfr_rf _ _) hc7 rfl
    have hf11 : zfr [(6, 3)] m10 m11 := zfr_up hm11 (zfr_rf _ _) zq_19 rfl
    have hfE : zfr [(7, 1), (7, 2), (7, 3), (7, 4), (6, 3)] m6 m11 := zfr_tr (zfr_tr (zfr_tr (zfr_tr (zfr_tr (zfr_rf _ m6) hf7 rfl) hf8 rfl) hf9 rfl) hf10 rfl) hf11 rfl
    refine zw_some ?_
    generalize ht7 : zu_up t6 199 (18 + t 190 19) (t6 190 11) = t7
    have e719 : t7 190 19 = t 190 19 := ((((((zs_ne ht7 (Or.inl (by decide))).trans (zfr_ap hft6 zq_190 rfl)).trans (zfr_ap hft5 zq_190 rfl)).trans (zfr_ap hft4 zq_190 rfl)).trans (zfr_ap hft3 zq_190 rfl)).trans (zfr_ap hft2 zq_190 rfl)).trans u19
    have ws2 := zu_w32_id (z := t 190 19 + 1) (by omega) (by omega)
    rw [e719, ws2, zu_b1]
    generalize ht8 : zu_up t7 190 19 (t 190 19 + 1) = t8
    have hJ7 := zi_up ht7 h6.2.1 zq_199 (zb_108 _) (by omega) (by omega)
    have hJ8 := zi_up ht8 hJ7 zq_190 zb_28_19 (by omega) (by omega)
    have hft7 : zfr [(108, 0)] t6 t7 := zfr_up ht7 (zfr_rf _ _) zq_199 rfl
    have hft8 : zfr [(28, 20)] t7 t8 := zfr_up ht8 (zfr_rf _ _) zq_190 rfl
    have hFm : zfr [(3, 7), (3, 8), (3, 9), (9, 4), (9, 5), (9, 6), (9, 7), (7, 1), (7, 2), (7, 3), (7, 4), (6, 3)] m m11 := zfr_tr (zfr_tr (zfr_rf _ m) hF6 rfl) hfE rfl
    have hFt : zfr [(28, 8), (28, 9), (28, 10), (28, 11), (28, 12), (28, 24), (28, 43), (28, 20), (106, 0), (107, 0), (108, 0)] t t8 := zfr_tr (zfr_tr (zfr_tr (zfr_tr (zfr_tr (zfr_tr (zfr_tr (zfr_tr (zfr_rf _ t) q2 rfl) hft2 rfl) hft3 rfl) hft4 rfl) hft5 rfl) hft6 rfl) hft7 rfl) hft8 rfl
    refine zw_some (Or.inr ⟨rfl, rfl, ?_, ?_, ⟨?_, ?_, ?_, ?_, ?_, ?_, ?_⟩, zKF_fr hFm hFt rfl rfl, ?_⟩)
    · exact zST_r (zST_r (zST_l h6 hI11 hfE rfl) hJ7 hft7 rfl) hJ8 hft8 rfl
    · exact zLAG_r (zLAG_r (zLAG_l hl6 hfE rfl) hft7 rfl) hft8 rfl
    · refine ⟨?_, ?_, ?_, ?_, ?_, ?_, ?_⟩
      · rw [show m11 6 0 = m 6 0 from zfr_ap hFm zq_6 rfl, show t8 190 17 = t 190 17 from zfr_ap hFt zq_190 rfl]; exact w1
      · rw [show m11 6 1 = m 6 1 from zfr_ap hFm zq_6 rfl, show t8 190 18 = t 190 18 from zfr_ap hFt zq_190 rfl]; exact w2
      · rw [show m11 5 6 = m4 5 6 from (zfr_ap hfE zq_5 rfl).trans (zfr_ap hf6 zq_5 rfl), show t8 190 23 = t4 190 23 from (((zfr_ap hft8 zq_190 rfl).trans (zfr_ap hft7 zq_190 rfl)).trans (zfr_ap hft6 zq_190 rfl)).trans (zfr_ap hft5 zq_190 rfl), g7, g8]
      · rw [show m11 5 5 = m 5 5 from zfr_ap hFm zq_5 rfl, show t8 190 22 = t 190 22 from zfr_ap hFt zq_190 rfl]; exact w4
      · rw [zs_eq hm11, zs_eq ht8]; omega
      · rw [show m11 19 4 = m 19 4 from zfr_ap hFm zq_19 rfl, show t8 190 20 = t 190 20 from zfr_ap hFt zq_190 rfl]; exact w6
      · rw [show m11 10 5 = m 10 5 from zfr_ap hFm zq_10 rfl, show t8 190 48 = t 190 48 from zfr_ap hFt zq_190 rfl]; exact w7
    · exact zDo_fr dO hFm hFt rfl rfl
    · exact zDk_fr dk hFm hFt rfl rfl
    · rw [zDe, zs_eq hm11]
      refine ⟨by omega, fun k k0 k1 => ?_⟩
      have n0 : ∀ p, m11 (20 + 5 + k) p = m10 (20 + 5 + k) p := fun p => zs_ne hm11 (Or.inl (by omega))
      have t0 : ∀ i, t8 197 i = t5 197 i := fun i => ((zfr_ap hft8 zq_197 rfl).trans (zfr_ap hft7 zq_197 rfl)).trans (zfr_ap hft6 zq_197 rfl)
      have t1' : ∀ i, t8 198 i = t3 198 i := fun i => ((((zfr_ap hft8 zq_198 rfl).trans (zfr_ap hft7 zq_198 rfl)).trans (zfr_ap hft6 zq_198 rfl)).trans (zfr_ap hft5 zq_198 rfl)).trans (zfr_ap hft4 zq_198 rfl)
      have t2' : ∀ i, t8 199 i = t7 199 i := fun i => zfr_ap hft8 zq_199 rfl
      by_cases e : k = m 19 2
      · subst e
        have a3 : m10 (20 + 5 + m 19 2) 3 = -1 := zs_eq hm10
        have a2 : m10 (20 + 5 + m 19 2) 2 = m6 5 7 := (zs_ne hm10 (Or.inr (by decide))).trans (zs_eq hm9)
        have a1 : m10 (20 + 5 + m 19 2) 1 = m2 5 7 := ((zs_ne hm10 (Or.inr (by decide))).trans (zs_ne hm9 (Or.inr (by decide)))).trans (zs_eq hm8)
        have a0 : m10 (20 + 5 + m 19 2) 0 = m6 5 8 := (((zs_ne hm10 (Or.inr (by decide))).trans (zs_ne hm9 (Or.inr (by decide)))).trans (zs_ne hm8 (Or.inr (by decide)))).trans (zs_eq hm7)
        rw [n0, n0, n0, n0, a0, a1, a2, a3, t0, t1', t2', w5, zs_eq ht5, zs_eq ht3, zs_eq ht7]
        exact ⟨by omega, g3, g12, rfl⟩
      · have kc := de.2 k k0 (by omega)
        have hne : ∀ (p q v : Int) (a b : zu_m), zu_up a (20 + 5 + m 19 2) q v = b → b (20 + 5 + k) p = a (20 + 5 + k) p := fun p q v a b hab => zs_ne hab (Or.inl (by omega))
        have hck : zcls (20 + 5 + k) = 7 := zegg k0 (by omega)
        have mm : ∀ p, m11 (20 + 5 + k) p = m (20 + 5 + k) p := fun p => by
          rw [n0, hne p _ _ _ _ hm10, hne p _ _ _ _ hm9, hne p _ _ _ _ hm8, hne p _ _ _ _ hm7]
          refine hF6 _ _ ?_
          rw [hck]; rfl
        have s0 : t8 197 (18 + k) = t 197 (18 + k) := by
          rw [t0, zs_ne ht5 (Or.inr (by omega))]
          exact ((zfr_ap hft4 zq_197 rfl).trans (zfr_ap hft3 zq_197 rfl)).trans ((zfr_ap hft2 zq_197 rfl).trans (zfr_ap q2 zq_197 rfl))
        have s1 : t8 198 (18 + k) = t 198 (18 + k) := by
          rw [t1', zs_ne ht3 (Or.inr (by omega))]
          exact (zfr_ap hft2 zq_198 rfl).trans (zfr_ap q2 zq_198 rfl)
        have s2 : t8 199 (18 + k) = t 199 (18 + k) := by
          rw [t2', zs_ne ht7 (Or.inr (by omega))]
          exact ((((zfr_ap hft6 zq_199 rfl).trans (zfr_ap hft5 zq_199 rfl)).trans (zfr_ap hft4 zq_199 rfl)).trans (zfr_ap hft3 zq_199 rfl)).trans ((zfr_ap hft2 zq_199 rfl).trans (zfr_ap q2 zq_199 rfl))
        rw [mm, mm, mm, mm, s0, s1, s2]
        exact kc
    · exact zDc_fr dc hFm hFt rfl rfl
    · exact zDs_fr ds hFm hFt rfl rfl
    · exact zDl_fr dl hFm hFt rfl rfl
    · have e1 : m11 45 3 = m6 45 3 := zfr_ap hfE zq_45 rfl
      omega
  · rw [if_neg (show ¬ t 190 19 ≠ 12 by omega), zc_257, zu_bds, zu_b0, zc_85, zu_bds, zu_b0]
    exact zw_some (zw_some (zPL_0 (zFLT_of (by decide) hS.2.1)))

/-! LINES side by side: garden, bush .. tree, egg -/
theorem zPL_0 {m t m' t' : zu_m} (h : zFLT m' t') : zPL m t 0 m' 0 t' := Or.inl ⟨rfl, rfl, h⟩
theorem zFLT_p {m t : zu_m} {f : Int} (hf : f ≠ 0) {t1 : zu_m} (h : m 45 6 = t1 190 10) : zFLT (zFL m f) (zFR t1 f) := zFLT_of hf h
/-- readGarden and gardenLine -/
theorem zp_garden (n : Nat) {m t : zu_m} (h : zST m t) (hS : zSYN m t) (hD : zRD m t) : zw (zu_call (zt_T n) 264 [(7, 5)] m) (fun v m' => zw (zu_call (zt_T n) 99 [(40, 190)] t) (fun w t' => zPL m t v m' w t')) := by
  obtain ⟨dw, dO, dk, de, dc, ds, dl⟩ := hD
  obtain ⟨o1, o2⟩ := zOnce dO (i := 0) (w := 0) (P := 1) (Or.inl ⟨rfl, rfl, rfl⟩)
  have hb := dO.2 0 (by omega) (by omega)
  obtain ⟨w1, w2, w3, w4, w5, w6, w7⟩ := dw
  refine zw_eq (zu_call_at (zt_T n) (zm_264 n) (zdp_264 n) _ _ _ _ _ rfl (zr_264_0 n _ _ 5 m)) ?_
  rw [zu_call_at (zt_T n) (zm_99 n) (zdp_99 n) _ _ _ _ _ rfl (zr_99_0 n _ _ 190 t), if_pos (by omega)]
  by_cases h0 : t 193 0 = 0
  · rw [zc_263a n (by omega), if_pos h0, o2 h0, zu_bds, if_pos (show (1 : Int) ≠ 0 by decide)]
    have bnd : 0 ≤ m 5 4 ∧ m 5 4 ≤ 2000 := by
      have := dO.1
      have := dO.2 1 (by omega) (by omega)
      have := dO.2 2 (by omega) (by omega)
      have := dO.2 3 (by omega) (by omega)
      have := dO.2 4 (by omega) (by omega)
      have := dO.2 5 (by omega) (by omega)
      omega
    generalize hm1 : zu_up m 5 4 (m 5 4 + 1) = m1
    have hI1 := zi_up hm1 h.1 zq_5 zb_3_4 (by omega) (by omega)
    have hf1 : zfr [(3, 5)] m m1 := zfr_up hm1 (zfr_rf _ _) zq_5 rfl
    have e6 : m1 5 6 = m 5 6 := zfr_ap hf1 zq_5 rfl
    have e45 : m1 45 6 = m 45 6 := zfr_ap hf1 zq_45 rfl
    rw [e6]
    by_cases hc : m 5 6 = 0
    · rw [if_pos hc, if_pos (show t 190 23 = 0 by omega), zu_b1, if_pos (show 0 ≤ (0 : Int) ∧ (0 : Int) < 6 by decide)]
      generalize ht1 : zu_up t 193 0 1 = t1
      have hIt1 := zi_up ht1 h.2.1 zq_193 (zb_102 0) (by omega) (by omega)
      have hft1 : zfr [(102, 0)] t t1 := zfr_up ht1 (zfr_rf _ _) zq_193 rfl
      have e3 : m1 45 3 = m 45 3 := zfr_ap hf1 zq_45 rfl
      have e7 : t1 190 7 = t 190 7 := zfr_ap hft1 zq_190 rfl
      refine zw_swap ?_
      refine zw_bd (zw_mono (zp_tkn n (zST_r (zST_l h hI1 hf1 rfl) hIt1 hft1 rfl) (by rw [e3, e7]; exact hS.1)) (fun _ t2 hs => ?_))
      obtain ⟨q1, q2, q3⟩ := hs
      refine zw_swap ?_
      refine zw_pair (zp_num n q1 q3 (by omega) (by omega)) (fun v m3 w t3 hp => ?_)
      rcases hp with ⟨rfl, rfl, hF⟩ | ⟨rfl, rfl, h3, hl3, hf3, hft3, p3, g1, g2, g3, g4⟩
      · rw [if_neg (by decide), if_neg (by decide), zu_b0, zu_b0]
        exact zw_some (zw_some (zPL_0 hF))
      rw [if_pos (by decide), if_pos (by decide)]
      generalize ht4 : zu_up t3 190 17 (t3 190 11) = t4
      have hIt4 := zi_up ht4 h3.2.1 zq_190 zb_28_17 (by omega) (by omega)
      have hft4 : zfr [(28, 18)] t3 t4 := zfr_up ht4 (zfr_rf _ _) zq_190 rfl
      have e17 : t4 190 17 = t3 190 11 := zs_eq ht4
      refine zw_pair (zp_num n (zST_r h3 hIt4 hft4 rfl) (zLAG_r hl3 hft4 rfl) (by omega) (by omega)) (fun v m5 w t5 hp => ?_)
      rcases hp with ⟨rfl, rfl, hF⟩ | ⟨rfl, rfl, h5, hl5, hf5, hft5, p5, g5, g6, g7, g8⟩
      · rw [if_neg (by decide), if_neg (by decide), zu_b0, zu_b0]
        exact zw_some (zw_some (zPL_0 hF))
      rw [if_pos (by decide), if_pos (by decide)]
      refine zw_bd (zw_mono (zk_15_4 n h5.1 zq_6 ⟨g1, g2⟩ ⟨g5, g6⟩) (fun _ m6 hs6 => ?_))
      obtain ⟨hI6, hf6, -, -, r1, r2, -⟩ := hs6
      rw [zu_b1, zu_b1]
      generalize ht6 : zu_up t5 190 18 (t5 190 11) = t6
      have hJ6 := zi_up ht6 h5.2.1 zq_190 zb_28_18 (by omega) (by omega)
      have hft6 : zfr [(28, 19)] t5 t6 := zfr_up ht6 (zfr_rf _ _) zq_190 rfl
      have hF3 : zfr [(3, 5), (3, 8), (3, 9), (9, 4), (9, 5), (9, 6), (9, 7)] m m3 := zfr_tr (zfr_tr (zfr_rf _ m) hf1 rfl) hf3 rfl
      have hFm : zfr [(3, 5), (3, 8), (3, 9), (9, 4), (9, 5), (9, 6), (9, 7), (4, 1), (4, 2), (4, 3), (30, 0), (31, 0)] m m6 := zfr_tr (zfr_tr (zfr_tr (zfr_rf _ m) hF3 rfl) hf5 rfl) hf6 rfl
      have hFt : zfr [(102, 0), (28, 8), (28, 9), (28, 10), (28, 11), (28, 12), (28, 18), (28, 19)] t t6 := zfr_tr (zfr_tr (zfr_tr (zfr_tr (zfr_tr (zfr_tr (zfr_rf _ t) hft1 rfl) q2 rfl) hft3 rfl) hft4 rfl) hft5 rfl) hft6 rfl
      refine zw_some (zw_some (Or.inr ⟨rfl, rfl, ?_, ?_, ⟨?_, ?_, ?_, ?_, ?_, ?_, ?_⟩, zKF_fr hFm hFt rfl rfl, ?_⟩))
      · exact zST_r (zST_l h5 hI6 hf6 rfl) hJ6 hft6 rfl
      · exact zLAG_r (zLAG_l hl5 hf6 rfl) hft6 rfl
      · refine ⟨?_, ?_, ?_, ?_, ?_, ?_, ?_⟩
        · rw [r1, show t6 190 17 = t4 190 17 from (zfr_ap hft6 zq_190 rfl).trans (zfr_ap hft5 zq_190 rfl), e17]; exact g3
        · rw [r2, zs_eq ht6]; exact g7
        · rw [show m6 5 6 = m 5 6 from zfr_ap hFm zq_5 rfl, show t6 190 23 = t 190 23 from zfr_ap hFt zq_190 rfl]; exact w3
        · rw [show m6 5 5 = m 5 5 from zfr_ap hFm zq_5 rfl, show t6 190 22 = t 190 22 from zfr_ap hFt zq_190 rfl]; exact w4
        · rw [show m6 19 2 = m 19 2 from zfr_ap hFm zq_19 rfl, show t6 190 19 = t 190 19 from zfr_ap hFt zq_190 rfl]; exact w5
        · rw [show m6 19 4 = m 19 4 from zfr_ap hFm zq_19 rfl, show t6 190 20 = t 190 20 from zfr_ap hFt zq_190 rfl]; exact w6
        · rw [show m6 10 5 = m 10 5 from zfr_ap hFm zq_10 rfl, show t6 190 48 = t 190 48 from zfr_ap hFt zq_190 rfl]; exact w7
      · have e193 : ∀ j, t6 193 j = t1 193 j := fun j => ((((zfr_ap hft6 zq_193 rfl).trans (zfr_ap hft5 zq_193 rfl)).trans (zfr_ap hft4 zq_193 rfl)).trans (zfr_ap hft3 zq_193 rfl)).trans (zfr_ap q2 zq_193 rfl)
        have e54 : m6 5 4 = m1 5 4 := ((zfr_ap hf6 zq_5 rfl).trans (zfr_ap hf5 zq_5 rfl)).trans (zfr_ap hf3 zq_5 rfl)
        exact zDo_up dO (i := 0) (P := 1) (Or.inl ⟨rfl, rfl⟩) h0 (by rw [e54]; exact zs_eq hm1) (by rw [e193]; exact zs_eq ht1) (fun j hj => by rw [e193]; exact zs_ne ht1 (Or.inr hj))
      · exact zDk_fr dk hFm hFt rfl rfl
      · exact zDe_fr de hFm hFt rfl rfl
      · exact zDc_fr dc hFm hFt rfl rfl
      · exact zDs_fr ds hFm hFt rfl rfl
      · exact zDl_fr dl hFm hFt rfl rfl
      · have e1 : m6 45 3 = m5 45 3 := zfr_ap hf6 zq_45 rfl
        omega
    · rw [if_neg hc, if_neg (show ¬ t 190 23 = 0 by omega), zc_257, zu_bds, zu_b0, zc_85, zu_bds, zu_b0]
      exact zw_some (zw_some (zPL_0 (zFLT_of (by decide) (e45.trans hS.2.1))))
  · rw [zc_263b n (by omega), if_neg h0, zc_85, zu_bds, zu_bds, zu_b0, if_neg (by decide), zu_b0]
    exact zw_some (zw_some (zPL_0 (zFLT_of (by decide) hS.2.1)))

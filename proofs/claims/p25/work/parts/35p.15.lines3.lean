/-! LINES side by side: bush .. tree -/
theorem zp_thing (n : Nat) {m t : zu_m} {x : Int} (h : zST m t) (hS : zSYN m t) (hD : zRD m t) (hx : m 45 5 = x) (hx1 : 1 ≤ x ∧ x ≤ 3) : zw (zu_call (zt_T n) 265 [(7, 5)] m) (fun v m' => zw (zu_call (zt_T n) 100 [(40, 190), (0, x)] t) (fun w t' => zPL m t v m' w t')) := by
  obtain ⟨dw, dO, dk, de, dc, ds, dl⟩ := hD
  obtain ⟨w1, w2, w3, w4, w5, w6, w7⟩ := dw
  have b55 := zi_rd h.1 zq_5 zb_3_5
  refine zw_eq (zu_call_at (zt_T n) (zm_265 n) (zdp_265 n) _ _ _ _ _ rfl (zr_265_0 n _ _ 5 m)) ?_
  rw [zu_call_at (zt_T n) (zm_100 n) (zdp_100 n) _ _ _ _ _ rfl (zr_100_0 n _ _ 190 x t)]
  refine zw_ite (fun hlt => ?_) (fun hlt => ?_)
  · rw [if_pos (show t 190 22 ≠ 16 by omega)]
    refine zw_swap ?_
    refine zw_bd (zw_mono (zp_tkn n h hS.1) (fun _ t1 hs => ?_))
    obtain ⟨q1, q2, q3⟩ := hs
    have u17 : t1 190 17 = t 190 17 := zfr_ap q2 zq_190 rfl
    have u18 : t1 190 18 = t 190 18 := zfr_ap q2 zq_190 rfl
    refine zw_swap ?_
    refine zw_pair (zp_cell n q1 q3 (by omega) (by omega)) (fun v m2 w t2 hp => ?_)
    rcases hp with ⟨rfl, rfl, hF⟩ | ⟨rfl, rfl, h2, hl2, hf2, hft2, p2, g1, g2, g3, g4, g5, g6⟩
    · rw [if_neg (show ¬ (0 : Int) ≠ 0 by decide), if_neg (show ¬ (0 : Int) ≠ 0 by decide), zu_b0, zu_b0]
      exact zw_some (zw_some (zPL_0 hF))
    rw [if_pos (show (1 : Int) ≠ 0 by decide), if_pos (show (1 : Int) ≠ 0 by decide)]
    have hft02 : zfr zWTc t t2 := zfr_tr (zfr_tr (zfr_rf zWTc t) q2 rfl) hft2 rfl
    have k2 := zDk_fr dk hf2 hft02 rfl rfl (m2 5 8) g1 (by omega)
    refine zw_if ⟨by omega, by omega⟩ ?_
    have e9 : (6 + 3 : Int) = 9 := rfl
    rw [e9]
    refine zw_ite (fun hz => ?_) (fun hz => ?_)
    · refine zw_if ⟨by omega, by omega⟩ ?_
      rw [zu_b1]
      have e55 : zu_up m2 9 (m2 5 8) (m 45 5) 5 5 = m2 5 5 := zu_up_ne (Or.inl (by decide))
      have u55 : m2 5 5 = m 5 5 := zfr_ap hf2 zq_5 rfl
      have ws1 := zu_w32_id (z := m 5 5 + 1) (by omega) (by omega)
      rw [e55, u55, ws1]
      refine zw_some ?_
      generalize hm3 : zu_up m2 9 (m2 5 8) (m 45 5) = m3
      generalize hm4 : zu_up m3 5 5 (m 5 5 + 1) = m4
      have e11 : zu_up t2 196 (m2 5 8) 1 190 11 = t2 190 11 := zu_up_ne (Or.inl (by decide))
      rw [← g3, if_pos (show 0 ≤ m2 5 8 ∧ m2 5 8 < 48 by omega), if_pos (k2.2.mp hz), zu_b1, if_pos (show 0 ≤ m2 5 8 ∧ m2 5 8 < 48 by omega), e11, ← g3]
      have ws2 := zu_w32_id (z := 48 + m2 5 8) (by omega) (by omega)
      rw [ws2, if_pos (show 0 ≤ 48 + m2 5 8 ∧ 48 + m2 5 8 < 96 by omega), zu_b1]
      generalize ht3 : zu_up t2 196 (m2 5 8) 1 = t3
      generalize ht4 : zu_up t3 195 (48 + m2 5 8) x = t4
      have e22 : t4 190 22 = t2 190 22 := (zs_ne ht4 (Or.inl (by decide))).trans (zs_ne ht3 (Or.inl (by decide)))
      have u22 : t2 190 22 = t 190 22 := zfr_ap hft02 zq_190 rfl
      have ws3 := zu_w32_id (z := t 190 22 + 1) (by omega) (by omega)
      rw [e22, u22, ws3]
      generalize ht5 : zu_up t4 190 22 (t 190 22 + 1) = t5
      have hI3 := zi_up hm3 h2.1 zq_9 (zb_32 _) (by omega) (by omega)
      have hI4 := zi_up hm4 hI3 zq_5 zb_3_5 (by omega) (by omega)
      have hf3 : zfr [(32, 0)] m2 m3 := zfr_up hm3 (zfr_rf _ _) zq_9 rfl
      have hf4 : zfr [(3, 6)] m3 m4 := zfr_up hm4 (zfr_rf _ _) zq_5 rfl
      have hJ3 := zi_up ht3 h2.2.1 zq_196 (zb_105 _) (by omega) (by omega)
      have hJ4 := zi_up ht4 hJ3 zq_195 (zb_104 _) (by omega) (by omega)
      have hJ5 := zi_up ht5 hJ4 zq_190 zb_28_22 (by omega) (by omega)
      have hft3 : zfr [(105, 0)] t2 t3 := zfr_up ht3 (zfr_rf _ _) zq_196 rfl
      have hft4 : zfr [(104, 0)] t3 t4 := zfr_up ht4 (zfr_rf _ _) zq_195 rfl
      have hft5 : zfr [(28, 23)] t4 t5 := zfr_up ht5 (zfr_rf _ _) zq_190 rfl
      have hFm : zfr [(3, 6), (3, 7), (3, 8), (3, 9), (9, 4), (9, 5), (9, 6), (9, 7), (32, 0)] m m4 := zfr_tr (zfr_tr (zfr_tr (zfr_rf _ m) hf2 rfl) hf3 rfl) hf4 rfl
      have hFt : zfr [(28, 8), (28, 9), (28, 10), (28, 11), (28, 12), (28, 24), (28, 43), (28, 23), (104, 0), (105, 0)] t t5 := zfr_tr (zfr_tr (zfr_tr (zfr_tr (zfr_rf _ t) hft02 rfl) hft3 rfl) hft4 rfl) hft5 rfl
      refine zw_some (Or.inr ⟨rfl, rfl, ?_, ?_, ⟨?_, ?_, ?_, ?_, ?_, ?_, ?_⟩, zKF_fr hFm hFt rfl rfl, ?_⟩)
      · exact zST_r (zST_r (zST_r (zST_l (zST_l h2 hI3 hf3 rfl) hI4 hf4 rfl) hJ3 hft3 rfl) hJ4 hft4 rfl) hJ5 hft5 rfl
      · exact zLAG_r (zLAG_r (zLAG_r (zLAG_l (zLAG_l hl2 hf3 rfl) hf4 rfl) hft3 rfl) hft4 rfl) hft5 rfl
      · refine ⟨?_, ?_, ?_, ?_, ?_, ?_, ?_⟩
        · rw [show m4 6 0 = m 6 0 from zfr_ap hFm zq_6 rfl, show t5 190 17 = t 190 17 from zfr_ap hFt zq_190 rfl]; exact w1
        · rw [show m4 6 1 = m 6 1 from zfr_ap hFm zq_6 rfl, show t5 190 18 = t 190 18 from zfr_ap hFt zq_190 rfl]; exact w2
        · rw [show m4 5 6 = m2 5 6 from (zfr_ap hf4 zq_5 rfl).trans (zfr_ap hf3 zq_5 rfl), show t5 190 23 = t2 190 23 from ((zfr_ap hft5 zq_190 rfl).trans (zfr_ap hft4 zq_190 rfl)).trans (zfr_ap hft3 zq_190 rfl), g4, g5]
        · rw [zs_eq hm4, zs_eq ht5]; omega
        · rw [show m4 19 2 = m 19 2 from zfr_ap hFm zq_19 rfl, show t5 190 19 = t 190 19 from zfr_ap hFt zq_190 rfl]; exact w5
        · rw [show m4 19 4 = m 19 4 from zfr_ap hFm zq_19 rfl, show t5 190 20 = t 190 20 from zfr_ap hFt zq_190 rfl]; exact w6
        · rw [show m4 10 5 = m 10 5 from zfr_ap hFm zq_10 rfl, show t5 190 48 = t 190 48 from zfr_ap hFt zq_190 rfl]; exact w7
      · exact zDo_fr dO hFm hFt rfl rfl
      · intro c c0 c1
        have kc := zDk_fr dk hf2 hft02 rfl rfl c c0 c1
        rw [show m4 9 c = m3 9 c from zfr_ap hf4 zq_9 rfl, show t5 195 (48 + c) = t4 195 (48 + c) from zfr_ap hft5 zq_195 rfl, show t5 196 c = t3 196 c from (zfr_ap hft5 zq_196 rfl).trans (zfr_ap hft4 zq_196 rfl)]
        by_cases e : c = m2 5 8
        · rw [e, zs_eq hm3, zs_eq ht4, zs_eq ht3]
          exact ⟨hx, by omega⟩
        · rw [zs_ne hm3 (Or.inr e), zs_ne ht4 (Or.inr (by omega)), zs_ne ht3 (Or.inr e), show t3 195 (48 + c) = t2 195 (48 + c) from zfr_ap hft3 zq_195 rfl]
          exact kc
      · exact zDe_fr de hFm hFt rfl rfl
      · exact zDc_fr dc hFm hFt rfl rfl
      · exact zDs_fr ds hFm hFt rfl rfl
      · exact zDl_fr dl hFm hFt rfl rfl
      · have e1 : m4 45 3 = m2 45 3 := (zfr_ap hf4 zq_45 rfl).trans (zfr_ap hf3 zq_45 rfl)
        omega
    · rw [zc_257, zu_bds, zu_b0]
      refine zw_some ?_
      rw [← g3, if_pos (show 0 ≤ m2 5 8 ∧ m2 5 8 < 48 by omega), if_neg (fun q => hz (k2.2.mpr q)), zc_85, zu_bds, zu_b0]
      refine zw_some (zPL_0 (zFLT_of (by decide) ?_))
      rw [zu_up_eq]
      exact g6
  · rw [if_neg (show ¬ t 190 22 ≠ 16 by omega), zc_257, zu_bds, zu_b0, zc_85, zu_bds, zu_b0]
    exact zw_some (zw_some (zPL_0 (zFLT_of (by decide) hS.2.1)))

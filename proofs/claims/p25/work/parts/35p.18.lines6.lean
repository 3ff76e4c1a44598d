/-! LINES side by side: rule, line, dog, sun, seed -/
theorem zc_269_6 (n : Nat) (m : zu_m) : zu_call (zt_T n) 269 [(7, 5), (0, 6)] m = some (1, zu_up m 19 10 (m 5 7)) := by
  rw [zu_call_at (zt_T n) (zm_269 n) (zdp_269 n) _ _ _ _ _ rfl (zr_269_0 n _ _ 5 6 m), if_neg (show ¬ (6 : Int) ≠ 6 by decide), zu_b1]
theorem zp_set6 (n : Nat) {m t : zu_m} (h : zST m t) (hS : zSYN m t) (hD : zRD m t) (hw : m 45 5 = 6) (hw' : t 190 9 = 6) : zw (zu_call (zt_T n) 268 [(7, 5)] m) (fun v m' => zw (zu_call (zt_T n) 104 [(40, 190)] t) (fun w t' => zPL m t v m' w t')) := by
  obtain ⟨dw, dO, dk, de, dc, ds, dl⟩ := hD
  obtain ⟨d1, d2, d3, d4, d5⟩ := ds
  refine zw_eq (zu_call_at (zt_T n) (zm_268 n) (zdp_268 n) _ _ _ _ _ rfl (zr_268_0 n _ _ 5 m)) ?_
  rw [zu_call_at (zt_T n) (zm_104 n) (zdp_104 n) _ _ _ _ _ rfl (zr_104_0 n _ _ 190 t), hw, if_pos hw']
  refine zw_pair (zp_once n h hS dO (i := 1) (w := 6) (P := 64) (by omega)) (fun v m1 w t1 hp => ?_)
  rcases hp with ⟨rfl, rfl, hF⟩ | ⟨rfl, rfl, h1, hl1, hf1, hft1, p1, g0⟩
  · rw [if_neg (show ¬ (0 : Int) ≠ 0 by decide), if_pos (show (0 : Int) = 0 from rfl), zu_b0, zu_b0]
    exact zw_some (zw_some (zPL_0 hF))
  rw [if_pos (show (1 : Int) ≠ 0 by decide), if_neg (show ¬ (1 : Int) = 0 by decide), if_pos (show (6 : Int) = 6 from rfl)]
  refine zw_pair (zp_pick n h1 hl1 (a := 16) (k := 3) (by omega) (by omega)) (fun v m3 w t3 hp => ?_)
  rcases hp with ⟨rfl, rfl, hF⟩ | ⟨rfl, rfl, h3, hl3, hf3, hft3, p3, g1, g2, g3⟩
  · rw [if_pos (show (0 : Int) = 0 from rfl), if_neg (show ¬ (0 : Int) ≠ 0 by decide), zu_b0, zu_b0]
    exact zw_some (zw_some (zPL_0 hF))
  rw [if_neg (show ¬ (1 : Int) = 0 by decide), if_pos (show (1 : Int) ≠ 0 by decide), if_pos (show 0 ≤ (5 : Int) ∧ (5 : Int) < 10 by decide), zc_269_6, zu_bds, if_neg (show ¬ (1 : Int) = 0 by decide), zu_b1, zu_b1]
  generalize hm4 : zu_up m3 19 10 (m3 5 7) = m4
  generalize ht4 : zu_up t3 194 5 (t3 190 11) = t4
  have bb := zi_rd h3.1 zq_5 zb_3_7
  have hI4 := zi_up hm4 h3.1 zq_19 zb_6_10 (by omega) (by omega)
  have hf4 : zfr [(6, 11)] m3 m4 := zfr_up hm4 (zfr_rf _ _) zq_19 rfl
  have hJ4 := zi_up ht4 h3.2.1 zq_194 (zb_103 _) (by omega) (by omega)
  have hft4 : zfr [(103, 0)] t3 t4 := zfr_up ht4 (zfr_rf _ _) zq_194 rfl
  have hFm : zfr [(3, 5), (3, 8), (9, 4), (9, 5), (9, 6), (9, 7), (6, 11)] m m4 := zfr_tr (zfr_tr (zfr_tr (zfr_rf _ m) hf1 rfl) hf3 rfl) hf4 rfl
  have hF3 : zfr [(28, 8), (28, 9), (28, 10), (28, 11), (28, 12), (102, 0)] t t3 := zfr_tr (zfr_tr (zfr_rf _ t) hft1 rfl) hft3 rfl
  have hFt : zfr [(28, 8), (28, 9), (28, 10), (28, 11), (28, 12), (102, 0), (103, 0)] t t4 := zfr_tr (zfr_tr (zfr_rf _ t) hF3 rfl) hft4 rfl
  have eo : ∀ j, j ≠ 5 → t4 194 j = t 194 j := fun j hj => (zs_ne ht4 (Or.inr hj)).trans (zfr_ap hF3 zq_194 rfl)
  have ea : m4 19 10 = t4 194 5 := by rw [zs_eq hm4, zs_eq ht4]; exact g3
  have ev : m4 19 10 = m3 5 7 := zs_eq hm4
  refine zw_some (zw_some (Or.inr ⟨rfl, rfl, zST_r (zST_l h3 hI4 hf4 rfl) hJ4 hft4 rfl, zLAG_r (zLAG_l hl3 hf4 rfl) hft4 rfl, ⟨zDw_fr dw hFm hFt rfl rfl, zDo_fr g0 (zfr_tr (zfr_tr (zfr_rf [(3, 8), (9, 4), (9, 5), (9, 6), (9, 7), (6, 11)] _) hf3 rfl) hf4 rfl) (zfr_tr (zfr_tr (zfr_rf [(28, 8), (28, 9), (28, 10), (28, 11), (28, 12), (103, 0)] _) hft3 rfl) hft4 rfl) rfl rfl, zDk_fr dk hFm hFt rfl rfl, zDe_fr de hFm hFt rfl rfl, zDc_fr dc hFm hFt rfl rfl, ?_, zDl_fr dl hFm hFt rfl rfl⟩, zKF_fr hFm hFt rfl rfl, ?_⟩))
  · exact ⟨ea, (by rw [show m4 6 3 = m 6 3 from zfr_ap hFm zq_6 rfl, eo 6 (by decide)]; exact d2), (by rw [show m4 6 4 = m 6 4 from zfr_ap hFm zq_6 rfl, eo 7 (by decide)]; exact d3), (by rw [show m4 19 11 = m 19 11 from zfr_ap hFm zq_19 rfl, eo 8 (by decide)]; exact d4), (by rw [show m4 6 5 = m 6 5 from zfr_ap hFm zq_6 rfl, eo 9 (by decide)]; exact d5)⟩
  · have e1 : m4 45 3 = m3 45 3 := zfr_ap hf4 zq_45 rfl
    omega
theorem zc_269_7 (n : Nat) (m : zu_m) : zu_call (zt_T n) 269 [(7, 5), (0, 7)] m = some (1, zu_up m 6 3 (m 5 7)) := by
  rw [zu_call_at (zt_T n) (zm_269 n) (zdp_269 n) _ _ _ _ _ rfl (zr_269_0 n _ _ 5 7 m), if_pos (show (7 : Int) ≠ 6 by decide), if_neg (show ¬ (7 : Int) ≠ 7 by decide), zu_b1]
theorem zp_set7 (n : Nat) {m t : zu_m} (h : zST m t) (hS : zSYN m t) (hD : zRD m t) (hw : m 45 5 = 7) (hw' : t 190 9 = 7) : zw (zu_call (zt_T n) 268 [(7, 5)] m) (fun v m' => zw (zu_call (zt_T n) 104 [(40, 190)] t) (fun w t' => zPL m t v m' w t')) := by
  obtain ⟨dw, dO, dk, de, dc, ds, dl⟩ := hD
  obtain ⟨d1, d2, d3, d4, d5⟩ := ds
  refine zw_eq (zu_call_at (zt_T n) (zm_268 n) (zdp_268 n) _ _ _ _ _ rfl (zr_268_0 n _ _ 5 m)) ?_
  rw [zu_call_at (zt_T n) (zm_104 n) (zdp_104 n) _ _ _ _ _ rfl (zr_104_0 n _ _ 190 t), hw, if_neg (show ¬ t 190 9 = 6 by omega), if_pos hw']
  refine zw_pair (zp_once n h hS dO (i := 2) (w := 7) (P := 128) (by omega)) (fun v m1 w t1 hp => ?_)
  rcases hp with ⟨rfl, rfl, hF⟩ | ⟨rfl, rfl, h1, hl1, hf1, hft1, p1, g0⟩
  · rw [if_neg (show ¬ (0 : Int) ≠ 0 by decide), if_pos (show (0 : Int) = 0 from rfl), zu_b0, zu_b0]
    exact zw_some (zw_some (zPL_0 hF))
  rw [if_pos (show (1 : Int) ≠ 0 by decide), if_neg (show ¬ (1 : Int) = 0 by decide), if_neg (show ¬ (7 : Int) = 6 by decide), if_pos (show (7 : Int) = 7 from rfl)]
  refine zw_pair (zp_num n h1 hl1 (by omega) (by omega)) (fun v m3 w t3 hp => ?_)
  rcases hp with ⟨rfl, rfl, hF⟩ | ⟨rfl, rfl, h3, hl3, hf3, hft3, p3, g1, g2, g3, g4⟩
  · rw [if_pos (show (0 : Int) = 0 from rfl), if_neg (show ¬ (0 : Int) ≠ 0 by decide), zu_b0, zu_b0]
    exact zw_some (zw_some (zPL_0 hF))
  rw [if_neg (show ¬ (1 : Int) = 0 by decide), if_pos (show (1 : Int) ≠ 0 by decide), if_pos (show 0 ≤ (6 : Int) ∧ (6 : Int) < 10 by decide), zc_269_7, zu_bds, if_neg (show ¬ (1 : Int) = 0 by decide), zu_b1, zu_b1]
  generalize hm4 : zu_up m3 6 3 (m3 5 7) = m4
  generalize ht4 : zu_up t3 194 6 (t3 190 11) = t4
  have bb := zi_rd h3.1 zq_5 zb_3_7
  have hI4 := zi_up hm4 h3.1 zq_6 zb_4_3 (by omega) (by omega)
  have hf4 : zfr [(4, 4)] m3 m4 := zfr_up hm4 (zfr_rf _ _) zq_6 rfl
  have hJ4 := zi_up ht4 h3.2.1 zq_194 (zb_103 _) (by omega) (by omega)
  have hft4 : zfr [(103, 0)] t3 t4 := zfr_up ht4 (zfr_rf _ _) zq_194 rfl
  have hFm : zfr [(3, 5), (3, 8), (9, 4), (9, 5), (9, 6), (9, 7), (4, 4)] m m4 := zfr_tr (zfr_tr (zfr_tr (zfr_rf _ m) hf1 rfl) hf3 rfl) hf4 rfl
  have hF3 : zfr [(28, 8), (28, 9), (28, 10), (28, 11), (28, 12), (102, 0)] t t3 := zfr_tr (zfr_tr (zfr_rf _ t) hft1 rfl) hft3 rfl
  have hFt : zfr [(28, 8), (28, 9), (28, 10), (28, 11), (28, 12), (102, 0), (103, 0)] t t4 := zfr_tr (zfr_tr (zfr_rf _ t) hF3 rfl) hft4 rfl
  have eo : ∀ j, j ≠ 6 → t4 194 j = t 194 j := fun j hj => (zs_ne ht4 (Or.inr hj)).trans (zfr_ap hF3 zq_194 rfl)
  have ea : m4 6 3 = t4 194 6 := by rw [zs_eq hm4, zs_eq ht4]; exact g3
  have ev : m4 6 3 = m3 5 7 := zs_eq hm4
  refine zw_some (zw_some (Or.inr ⟨rfl, rfl, zST_r (zST_l h3 hI4 hf4 rfl) hJ4 hft4 rfl, zLAG_r (zLAG_l hl3 hf4 rfl) hft4 rfl, ⟨zDw_fr dw hFm hFt rfl rfl, zDo_fr g0 (zfr_tr (zfr_tr (zfr_rf [(3, 8), (9, 4), (9, 5), (9, 6), (9, 7), (4, 4)] _) hf3 rfl) hf4 rfl) (zfr_tr (zfr_tr (zfr_rf [(28, 8), (28, 9), (28, 10), (28, 11), (28, 12), (103, 0)] _) hft3 rfl) hft4 rfl) rfl rfl, zDk_fr dk hFm hFt rfl rfl, zDe_fr de hFm hFt rfl rfl, zDc_fr dc hFm hFt rfl rfl, ?_, zDl_fr dl hFm hFt rfl rfl⟩, zKF_fr hFm hFt rfl rfl, ?_⟩))
  · exact ⟨(by rw [show m4 19 10 = m 19 10 from zfr_ap hFm zq_19 rfl, eo 5 (by decide)]; exact d1), ea, (by rw [show m4 6 4 = m 6 4 from zfr_ap hFm zq_6 rfl, eo 7 (by decide)]; exact d3), (by rw [show m4 19 11 = m 19 11 from zfr_ap hFm zq_19 rfl, eo 8 (by decide)]; exact d4), (by rw [show m4 6 5 = m 6 5 from zfr_ap hFm zq_6 rfl, eo 9 (by decide)]; exact d5)⟩
  · have e1 : m4 45 3 = m3 45 3 := zfr_ap hf4 zq_45 rfl
    omega
theorem zc_269_8 (n : Nat) (m : zu_m) : zu_call (zt_T n) 269 [(7, 5), (0, 8)] m = some (1, zu_up m 6 4 (m 5 7)) := by
  rw [zu_call_at (zt_T n) (zm_269 n) (zdp_269 n) _ _ _ _ _ rfl (zr_269_0 n _ _ 5 8 m), if_pos (show (8 : Int) ≠ 6 by decide), if_pos (show (8 : Int) ≠ 7 by decide), if_neg (show ¬ (8 : Int) ≠ 8 by decide), zu_b1]
theorem zp_set8 (n : Nat) {m t : zu_m} (h : zST m t) (hS : zSYN m t) (hD : zRD m t) (hw : m 45 5 = 8) (hw' : t 190 9 = 8) : zw (zu_call (zt_T n) 268 [(7, 5)] m) (fun v m' => zw (zu_call (zt_T n) 104 [(40, 190)] t) (fun w t' => zPL m t v m' w t')) := by
  obtain ⟨dw, dO, dk, de, dc, ds, dl⟩ := hD
  obtain ⟨d1, d2, d3, d4, d5⟩ := ds
  refine zw_eq (zu_call_at (zt_T n) (zm_268 n) (zdp_268 n) _ _ _ _ _ rfl (zr_268_0 n _ _ 5 m)) ?_
  rw [zu_call_at (zt_T n) (zm_104 n) (zdp_104 n) _ _ _ _ _ rfl (zr_104_0 n _ _ 190 t), hw, if_neg (show ¬ t 190 9 = 6 by omega), if_neg (show ¬ t 190 9 = 7 by omega), if_pos hw']
  refine zw_pair (zp_once n h hS dO (i := 3) (w := 8) (P := 256) (by omega)) (fun v m1 w t1 hp => ?_)
  rcases hp with ⟨rfl, rfl, hF⟩ | ⟨rfl, rfl, h1, hl1, hf1, hft1, p1, g0⟩
  · rw [if_neg (show ¬ (0 : Int) ≠ 0 by decide), if_pos (show (0 : Int) = 0 from rfl), zu_b0, zu_b0]
    exact zw_some (zw_some (zPL_0 hF))
  rw [if_pos (show (1 : Int) ≠ 0 by decide), if_neg (show ¬ (1 : Int) = 0 by decide), if_neg (show ¬ (8 : Int) = 6 by decide), if_neg (show ¬ (8 : Int) = 7 by decide), if_pos (show (8 : Int) = 8 from rfl)]
  refine zw_pair (zp_num n h1 hl1 (by omega) (by omega)) (fun v m3 w t3 hp => ?_)
  rcases hp with ⟨rfl, rfl, hF⟩ | ⟨rfl, rfl, h3, hl3, hf3, hft3, p3, g1, g2, g3, g4⟩
  · rw [if_pos (show (0 : Int) = 0 from rfl), if_neg (show ¬ (0 : Int) ≠ 0 by decide), zu_b0, zu_b0]
    exact zw_some (zw_some (zPL_0 hF))
  rw [if_neg (show ¬ (1 : Int) = 0 by decide), if_pos (show (1 : Int) ≠ 0 by decide), if_pos (show 0 ≤ (7 : Int) ∧ (7 : Int) < 10 by decide), zc_269_8, zu_bds, if_neg (show ¬ (1 : Int) = 0 by decide), zu_b1, zu_b1]
  generalize hm4 : zu_up m3 6 4 (m3 5 7) = m4
  generalize ht4 : zu_up t3 194 7 (t3 190 11) = t4
  have bb := zi_rd h3.1 zq_5 zb_3_7
  have hI4 := zi_up hm4 h3.1 zq_6 zb_4_4 (by omega) (by omega)
  have hf4 : zfr [(4, 5)] m3 m4 := zfr_up hm4 (zfr_rf _ _) zq_6 rfl
  have hJ4 := zi_up ht4 h3.2.1 zq_194 (zb_103 _) (by omega) (by omega)
  have hft4 : zfr [(103, 0)] t3 t4 := zfr_up ht4 (zfr_rf _ _) zq_194 rfl
  have hFm : zfr [(3, 5), (3, 8), (9, 4), (9, 5), (9, 6), (9, 7), (4, 5)] m m4 := zfr_tr (zfr_tr (zfr_tr (zfr_rf _ m) hf1 rfl) hf3 rfl) hf4 rfl
  have hF3 : zfr [(28, 8), (28, 9), (28, 10), (28, 11), (28, 12), (102, 0)] t t3 := zfr_tr (zfr_tr (zfr_rf _ t) hft1 rfl) hft3 rfl
  have hFt : zfr [(28, 8), (28, 9), (28, 10), (28, 11), (28, 12), (102, 0), (103, 0)] t t4 := zfr_tr (zfr_tr (zfr_rf _ t) hF3 rfl) hft4 rfl
  have eo : ∀ j, j ≠ 7 → t4 194 j = t 194 j := fun j hj => (zs_ne ht4 (Or.inr hj)).trans (zfr_ap hF3 zq_194 rfl)
  have ea : m4 6 4 = t4 194 7 := by rw [zs_eq hm4, zs_eq ht4]; exact g3
  have ev : m4 6 4 = m3 5 7 := zs_eq hm4
  refine zw_some (zw_some (Or.inr ⟨rfl, rfl, zST_r (zST_l h3 hI4 hf4 rfl) hJ4 hft4 rfl, zLAG_r (zLAG_l hl3 hf4 rfl) hft4 rfl, ⟨zDw_fr dw hFm hFt rfl rfl, zDo_fr g0 (zfr_tr (zfr_tr (zfr_rf [(3, 8), (9, 4), (9, 5), (9, 6), (9, 7), (4, 5)] _) hf3 rfl) hf4 rfl) (zfr_tr (zfr_tr (zfr_rf [(28, 8), (28, 9), (28, 10), (28, 11), (28, 12), (103, 0)] _) hft3 rfl) hft4 rfl) rfl rfl, zDk_fr dk hFm hFt rfl rfl, zDe_fr de hFm hFt rfl rfl, zDc_fr dc hFm hFt rfl rfl, ?_, zDl_fr dl hFm hFt rfl rfl⟩, zKF_fr hFm hFt rfl rfl, ?_⟩))
  · exact ⟨(by rw [show m4 19 10 = m 19 10 from zfr_ap hFm zq_19 rfl, eo 5 (by decide)]; exact d1), (by rw [show m4 6 3 = m 6 3 from zfr_ap hFm zq_6 rfl, eo 6 (by decide)]; exact d2), ea, (by rw [show m4 19 11 = m 19 11 from zfr_ap hFm zq_19 rfl, eo 8 (by decide)]; exact d4), (by rw [show m4 6 5 = m 6 5 from zfr_ap hFm zq_6 rfl, eo 9 (by decide)]; exact d5)⟩
  · have e1 : m4 45 3 = m3 45 3 := zfr_ap hf4 zq_45 rfl
    omega
theorem zc_269_9 (n : Nat) (m : zu_m) : zu_call (zt_T n) 269 [(7, 5), (0, 9)] m = some (1, zu_up m 19 11 (m 5 7)) := by
  rw [zu_call_at (zt_T n) (zm_269 n) (zdp_269 n) _ _ _ _ _ rfl (zr_269_0 n _ _ 5 9 m), if_pos (show (9 : Int) ≠ 6 by decide), if_pos (show (9 : Int) ≠ 7 by decide), if_pos (show (9 : Int) ≠ 8 by decide), if_neg (show ¬ (9 : Int) ≠ 9 by decide), zu_b1]
theorem zp_set9 (n : Nat) {m t : zu_m} (h : zST m t) (hS : zSYN m t) (hD : zRD m t) (hw : m 45 5 = 9) (hw' : t 190 9 = 9) : zw (zu_call (zt_T n) 268 [(7, 5)] m) (fun v m' => zw (zu_call (zt_T n) 104 [(40, 190)] t) (fun w t' => zPL m t v m' w t')) := by
  obtain ⟨dw, dO, dk, de, dc, ds, dl⟩ := hD
  obtain ⟨d1, d2, d3, d4, d5⟩ := ds
  refine zw_eq (zu_call_at (zt_T n) (zm_268 n) (zdp_268 n) _ _ _ _ _ rfl (zr_268_0 n _ _ 5 m)) ?_
  rw [zu_call_at (zt_T n) (zm_104 n) (zdp_104 n) _ _ _ _ _ rfl (zr_104_0 n _ _ 190 t), hw, if_neg (show ¬ t 190 9 = 6 by omega), if_neg (show ¬ t 190 9 = 7 by omega), if_neg (show ¬ t 190 9 = 8 by omega), if_pos hw']
  refine zw_pair (zp_once n h hS dO (i := 4) (w := 9) (P := 512) (by omega)) (fun v m1 w t1 hp => ?_)
  rcases hp with ⟨rfl, rfl, hF⟩ | ⟨rfl, rfl, h1, hl1, hf1, hft1, p1, g0⟩
  · rw [if_neg (show ¬ (0 : Int) ≠ 0 by decide), if_pos (show (0 : Int) = 0 from rfl), zu_b0, zu_b0]
    exact zw_some (zw_some (zPL_0 hF))
  rw [if_pos (show (1 : Int) ≠ 0 by decide), if_neg (show ¬ (1 : Int) = 0 by decide), if_neg (show ¬ (9 : Int) = 6 by decide), if_neg (show ¬ (9 : Int) = 7 by decide), if_neg (show ¬ (9 : Int) = 8 by decide), if_pos (show (9 : Int) = 9 from rfl)]
  refine zw_pair (zp_num n h1 hl1 (by omega) (by omega)) (fun v m3 w t3 hp => ?_)
  rcases hp with ⟨rfl, rfl, hF⟩ | ⟨rfl, rfl, h3, hl3, hf3, hft3, p3, g1, g2, g3, g4⟩
  · rw [if_pos (show (0 : Int) = 0 from rfl), if_neg (show ¬ (0 : Int) ≠ 0 by decide), zu_b0, zu_b0]
    exact zw_some (zw_some (zPL_0 hF))
  rw [if_neg (show ¬ (1 : Int) = 0 by decide), if_pos (show (1 : Int) ≠ 0 by decide), if_pos (show 0 ≤ (8 : Int) ∧ (8 : Int) < 10 by decide), zc_269_9, zu_bds, if_neg (show ¬ (1 : Int) = 0 by decide), zu_b1, zu_b1]
  generalize hm4 : zu_up m3 19 11 (m3 5 7) = m4
  generalize ht4 : zu_up t3 194 8 (t3 190 11) = t4
  have bb := zi_rd h3.1 zq_5 zb_3_7
  have hI4 := zi_up hm4 h3.1 zq_19 zb_6_11 (by omega) (by omega)
  have hf4 : zfr [(6, 12)] m3 m4 := zfr_up hm4 (zfr_rf _ _) zq_19 rfl
  have hJ4 := zi_up ht4 h3.2.1 zq_194 (zb_103 _) (by omega) (by omega)
  have hft4 : zfr [(103, 0)] t3 t4 := zfr_up ht4 (zfr_rf _ _) zq_194 rfl
  have hFm : zfr [(3, 5), (3, 8), (9, 4), (9, 5), (9, 6), (9, 7), (6, 12)] m m4 := zfr_tr (zfr_tr (zfr_tr (zfr_rf _ m) hf1 rfl) hf3 rfl) hf4 rfl
  have hF3 : zfr [(28, 8), (28, 9), (28, 10), (28, 11), (28, 12), (102, 0)] t t3 := zfr_tr (zfr_tr (zfr_rf _ t) hft1 rfl) hft3 rfl
  have hFt : zfr [(28, 8), (28, 9), (28, 10), (28, 11), (28, 12), (102, 0), (103, 0)] t t4 := zfr_tr (zfr_tr (zfr_rf _ t) hF3 rfl) hft4 rfl
  have eo : ∀ j, j ≠ 8 → t4 194 j = t 194 j := fun j hj => (zs_ne ht4 (Or.inr hj)).trans (zfr_ap hF3 zq_194 rfl)
  have ea : m4 19 11 = t4 194 8 := by rw [zs_eq hm4, zs_eq ht4]; exact g3
  have ev : m4 19 11 = m3 5 7 := zs_eq hm4
  refine zw_some (zw_some (Or.inr ⟨rfl, rfl, zST_r (zST_l h3 hI4 hf4 rfl) hJ4 hft4 rfl, zLAG_r (zLAG_l hl3 hf4 rfl) hft4 rfl, ⟨zDw_fr dw hFm hFt rfl rfl, zDo_fr g0 (zfr_tr (zfr_tr (zfr_rf [(3, 8), (9, 4), (9, 5), (9, 6), (9, 7), (6, 12)] _) hf3 rfl) hf4 rfl) (zfr_tr (zfr_tr (zfr_rf [(28, 8), (28, 9), (28, 10), (28, 11), (28, 12), (103, 0)] _) hft3 rfl) hft4 rfl) rfl rfl, zDk_fr dk hFm hFt rfl rfl, zDe_fr de hFm hFt rfl rfl, zDc_fr dc hFm hFt rfl rfl, ?_, zDl_fr dl hFm hFt rfl rfl⟩, zKF_fr hFm hFt rfl rfl, ?_⟩))
  · exact ⟨(by rw [show m4 19 10 = m 19 10 from zfr_ap hFm zq_19 rfl, eo 5 (by decide)]; exact d1), (by rw [show m4 6 3 = m 6 3 from zfr_ap hFm zq_6 rfl, eo 6 (by decide)]; exact d2), (by rw [show m4 6 4 = m 6 4 from zfr_ap hFm zq_6 rfl, eo 7 (by decide)]; exact d3), Or.inl ⟨ea, by omega, by omega⟩, (by rw [show m4 6 5 = m 6 5 from zfr_ap hFm zq_6 rfl, eo 9 (by decide)]; exact d5)⟩
  · have e1 : m4 45 3 = m3 45 3 := zfr_ap hf4 zq_45 rfl
    omega
theorem zc_269_10 (n : Nat) (m : zu_m) : zu_call (zt_T n) 269 [(7, 5), (0, 10)] m = some (1, zu_up m 6 5 (m 5 7)) := by
  rw [zu_call_at (zt_T n) (zm_269 n) (zdp_269 n) _ _ _ _ _ rfl (zr_269_0 n _ _ 5 10 m), if_pos (show (10 : Int) ≠ 6 by decide), if_pos (show (10 : Int) ≠ 7 by decide), if_pos (show (10 : Int) ≠ 8 by decide), if_pos (show (10 : Int) ≠ 9 by decide), if_neg (show ¬ (10 : Int) ≠ 10 by decide), zu_b1]
theorem zp_set10 (n : Nat) {m t : zu_m} (h : zST m t) (hS : zSYN m t) (hD : zRD m t) (hw : m 45 5 = 10) (hw' : t 190 9 = 10) : zw (zu_call (zt_T n) 268 [(7, 5)] m) (fun v m' => zw (zu_call (zt_T n) 104 [(40, 190)] t) (fun w t' => zPL m t v m' w t')) := by
  obtain ⟨dw, dO, dk, de, dc, ds, dl⟩ := hD
  obtain ⟨d1, d2, d3, d4, d5⟩ := ds
  refine zw_eq (zu_call_at (zt_T n) (zm_268 n) (zdp_268 n) _ _ _ _ _ rfl (zr_268_0 n _ _ 5 m)) ?_
  rw [zu_call_at (zt_T n) (zm_104 n) (zdp_104 n) _ _ _ _ _ rfl (zr_104_0 n _ _ 190 t), hw, if_neg (show ¬ t 190 9 = 6 by omega), if_neg (show ¬ t 190 9 = 7 by omega), if_neg (show ¬ t 190 9 = 8 by omega), if_neg (show ¬ t 190 9 = 9 by omega)]
  refine zw_pair (zp_once n h hS dO (i := 5) (w := 10) (P := 1024) (by omega)) (fun v m1 w t1 hp => ?_)
  rcases hp with ⟨rfl, rfl, hF⟩ | ⟨rfl, rfl, h1, hl1, hf1, hft1, p1, g0⟩
  · rw [if_neg (show ¬ (0 : Int) ≠ 0 by decide), if_pos (show (0 : Int) = 0 from rfl), zu_b0, zu_b0]
    exact zw_some (zw_some (zPL_0 hF))
  rw [if_pos (show (1 : Int) ≠ 0 by decide), if_neg (show ¬ (1 : Int) = 0 by decide), if_neg (show ¬ (10 : Int) = 6 by decide), if_neg (show ¬ (10 : Int) = 7 by decide), if_neg (show ¬ (10 : Int) = 8 by decide), if_neg (show ¬ (10 : Int) = 9 by decide)]
  refine zw_pair (zp_num n h1 hl1 (by omega) (by omega)) (fun v m3 w t3 hp => ?_)
  rcases hp with ⟨rfl, rfl, hF⟩ | ⟨rfl, rfl, h3, hl3, hf3, hft3, p3, g1, g2, g3, g4⟩
  · rw [if_pos (show (0 : Int) = 0 from rfl), if_neg (show ¬ (0 : Int) ≠ 0 by decide), zu_b0, zu_b0]
    exact zw_some (zw_some (zPL_0 hF))
  rw [if_neg (show ¬ (1 : Int) = 0 by decide), if_pos (show (1 : Int) ≠ 0 by decide), if_pos (show 0 ≤ (9 : Int) ∧ (9 : Int) < 10 by decide), zc_269_10, zu_bds, if_neg (show ¬ (1 : Int) = 0 by decide), zu_b1, zu_b1]
  generalize hm4 : zu_up m3 6 5 (m3 5 7) = m4
  generalize ht4 : zu_up t3 194 9 (t3 190 11) = t4
  have bb := zi_rd h3.1 zq_5 zb_3_7
  have hI4 := zi_up hm4 h3.1 zq_6 zb_4_5 (by omega) (by omega)
  have hf4 : zfr [(4, 6)] m3 m4 := zfr_up hm4 (zfr_rf _ _) zq_6 rfl
  have hJ4 := zi_up ht4 h3.2.1 zq_194 (zb_103 _) (by omega) (by omega)
  have hft4 : zfr [(103, 0)] t3 t4 := zfr_up ht4 (zfr_rf _ _) zq_194 rfl
  have hFm : zfr [(3, 5), (3, 8), (9, 4), (9, 5), (9, 6), (9, 7), (4, 6)] m m4 := zfr_tr (zfr_tr (zfr_tr (zfr_rf _ m) hf1 rfl) hf3 rfl) hf4 rfl
  have hF3 : zfr [(28, 8), (28, 9), (28, 10), (28, 11), (28, 12), (102, 0)] t t3 := zfr_tr (zfr_tr (zfr_rf _ t) hft1 rfl) hft3 rfl
  have hFt : zfr [(28, 8), (28, 9), (28, 10), (28, 11), (28, 12), (102, 0), (103, 0)] t t4 := zfr_tr (zfr_tr (zfr_rf _ t) hF3 rfl) hft4 rfl
  have eo : ∀ j, j ≠ 9 → t4 194 j = t 194 j := fun j hj => (zs_ne ht4 (Or.inr hj)).trans (zfr_ap hF3 zq_194 rfl)
  have ea : m4 6 5 = t4 194 9 := by rw [zs_eq hm4, zs_eq ht4]; exact g3
  have ev : m4 6 5 = m3 5 7 := zs_eq hm4
  refine zw_some (zw_some (Or.inr ⟨rfl, rfl, zST_r (zST_l h3 hI4 hf4 rfl) hJ4 hft4 rfl, zLAG_r (zLAG_l hl3 hf4 rfl) hft4 rfl, ⟨zDw_fr dw hFm hFt rfl rfl, zDo_fr g0 (zfr_tr (zfr_tr (zfr_rf [(3, 8), (9, 4), (9, 5), (9, 6), (9, 7), (4, 6)] _) hf3 rfl) hf4 rfl) (zfr_tr (zfr_tr (zfr_rf [(28, 8), (28, 9), (28, 10), (28, 11), (28, 12), (103, 0)] _) hft3 rfl) hft4 rfl) rfl rfl, zDk_fr dk hFm hFt rfl rfl, zDe_fr de hFm hFt rfl rfl, zDc_fr dc hFm hFt rfl rfl, ?_, zDl_fr dl hFm hFt rfl rfl⟩, zKF_fr hFm hFt rfl rfl, ?_⟩))
  · exact ⟨(by rw [show m4 19 10 = m 19 10 from zfr_ap hFm zq_19 rfl, eo 5 (by decide)]; exact d1), (by rw [show m4 6 3 = m 6 3 from zfr_ap hFm zq_6 rfl, eo 6 (by decide)]; exact d2), (by rw [show m4 6 4 = m 6 4 from zfr_ap hFm zq_6 rfl, eo 7 (by decide)]; exact d3), (by rw [show m4 19 11 = m 19 11 from zfr_ap hFm zq_19 rfl, eo 8 (by decide)]; exact d4), ea⟩
  · have e1 : m4 45 3 = m3 45 3 := zfr_ap hf4 zq_45 rfl
    omega

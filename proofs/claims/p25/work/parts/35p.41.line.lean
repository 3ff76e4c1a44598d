/-! readLine and lineRead -/
def zLN (m t : zu_m) (v : Int) (m' : zu_m) (w : Int) (t' : zu_m) : Prop := (v = 0 ∧ w = 0 ∧ zFLT m' t') ∨ (v = 1 ∧ w = 1 ∧ zST m' t' ∧ zLAG m' t' ∧ zRD m' t' ∧ zKF m t m' t')
theorem zRD_ab {m m' t t' : zu_m} (hD : zRD m t) (hf : zfr zWA m m') (hft : zfr zWB t t') : zRD m' t' := by
  obtain ⟨dw, dO, dk, de, dc, ds, dl⟩ := hD
  exact ⟨zDw_fr dw hf hft rfl rfl, zDo_fr dO hf hft rfl rfl, zDk_fr dk hf hft rfl rfl, zDe_fr de hf hft rfl rfl, zDc_fr dc hf hft rfl rfl, zDs_fr ds hf hft rfl rfl, zDl_fr dl hf hft rfl rfl⟩
/-- the reference's end of a LINE at ';' -/
noncomputable def zrE (n : Nat) (t : zu_m) : Option zu_R := (zu_bd (zu_call (zt_T n) 93 [(40, 190), (0, 59)] t) (fun v125 s125 => (if v125 ≠ 0 then (zu_bd (zu_call (zt_T n) 89 [(40, 190)] s125) (fun v138 s138 => (zu_b 1 (some (1, s138))))) else (zu_bd (zu_call (zt_T n) 85 [(40, 190), (0, 1)] s125) (fun v133 s133 => (zu_b v133 (some (v133, s133))))))))
theorem zp_tail (n : Nat) {m t m' t' : zu_m} {v w : Int} (hp : zPL m t v m' w t') : zw (if v = 0 then (zu_b 0 (some (0, m'))) else (zu_bd (zu_call (zt_T n) 259 [(7, 5)] m') (fun v76 s76 => (if v76 = 0 then (zu_b 0 (some (0, s76))) else (zu_b 1 (some (1, s76))))))) (fun v2 m2 => zw (if w ≠ 0 then zrE n t' else (zu_b 0 (some (0, t')))) (fun w2 t2 => zLN m t v2 m2 w2 t2)) := by
  rcases hp with ⟨rfl, rfl, hF⟩ | ⟨rfl, rfl, h1, h2, h3, h5, -⟩
  · rw [if_pos rfl, if_neg (show ¬ (0 : Int) ≠ 0 by decide), zu_b0, zu_b0]
    exact zw_some (zw_some (Or.inl ⟨rfl, rfl, hF⟩))
  · rw [if_neg (show ¬ (1 : Int) = 0 by decide), if_pos (show (1 : Int) ≠ 0 by decide)]
    unfold zrE
    rw [zc_93, zu_bds]
    refine zw_bd (zw_mono (zp_end n h1 h2) (fun v3 m3 hs => ?_))
    rcases hs with ⟨e1, e2, e3⟩ | ⟨e1, e2, e3, e4, e5, e6, e7⟩
    · rw [e1, if_pos rfl, zu_b0, if_neg e2, if_neg (show ¬ (0 : Int) ≠ 0 by decide), zc_85, zu_bds, zu_b0]
      exact zw_some (zw_some (Or.inl ⟨rfl, rfl, e3⟩))
    · rw [e1, if_neg (show ¬ (1 : Int) = 0 by decide), zu_b1, if_pos (show t' 190 8 = 4 ∧ t' 190 9 = 59 from ⟨e2, e3⟩), if_pos (show (1 : Int) ≠ 0 by decide)]
      refine zw_some (zw_bd (zw_mono (zp_tkn n e4 e6) (fun _ t3 hs => ?_)))
      rw [zu_b1]
      exact zw_some (Or.inr ⟨rfl, rfl, hs.1, hs.2.2, zRD_ab h3 e5 hs.2.1, zKF_tr h5 (zKF_fr e5 hs.2.1 rfl rfl)⟩)
theorem zp_tailE (n : Nat) {m t m' t' : zu_m} {v w : Int} (hp : zPE m t v m' w t') : zw (zu_b v (some (v, m'))) (fun v2 m2 => zw (if w ≠ 0 then zrE n t' else (zu_b 0 (some (0, t')))) (fun w2 t2 => zLN m t v2 m2 w2 t2)) := by
  rcases hp with ⟨rfl, rfl, hF⟩ | ⟨rfl, rfl, h1, h2, h3, h4, h5⟩
  · rw [if_neg (show ¬ (0 : Int) ≠ 0 by decide), zu_b0, zu_b0]
    exact zw_some (zw_some (Or.inl ⟨rfl, rfl, hF⟩))
  · rw [if_pos (show (1 : Int) ≠ 0 by decide), zu_b1]
    unfold zrE
    rw [zc_93, zu_bds, if_pos h3, if_pos (show (1 : Int) ≠ 0 by decide)]
    refine zw_some (zw_bd (zw_mono (zp_tkn n h1 h2.1) (fun _ t3 hs => ?_)))
    rw [zu_b1]
    exact zw_some (Or.inr ⟨rfl, rfl, hs.1, hs.2.2, zRD_ab h4 (zfr_rf _ _) hs.2.1, zKF_tr h5 (zKF_fr (zfr_rf zWA _) hs.2.1 rfl rfl)⟩)
theorem zKV_w {k v k' w : Int} (h : zKV k v k' w) : (k = 1 ∧ 0 ≤ v ∧ v < 12) ↔ (k' = 1 ∧ w ≤ 11) := by
  unfold zKV at h
  omega
theorem zKV_wv {v w : Int} (h : zKV 1 v 1 w) (h1 : w ≤ 11) : v = w ∧ 0 ≤ w := by
  unfold zKV at h
  omega
theorem zp_line (n : Nat) {m t : zu_m} (h : zST m t) (hS : zSYN m t) (hD : zRD m t) (hX : zR_BX m) (hBN : zR_BN m) (hK10 : zR_K10 m) (hKN : zR_KN t) (h21 : t 190 21 = t 190 48) : zw (zu_call (zt_T n) 258 [(7, 5)] m) (fun v m' => zw (zu_call (zt_T n) 105 [(40, 190)] t) (fun w t' => zLN m t v m' w t')) := by
  have hw := zKV_w hS.2.2.1
  refine zw_eq (zu_call_at (zt_T n) (zm_258 n) (zdp_258 n) _ _ _ _ _ rfl (zr_258_0 n _ _ 5 m)) ?_
  rw [zu_call_at (zt_T n) (zm_105 n) (zdp_105 n) _ _ _ _ _ rfl (zr_105_0 n _ _ 190 t), zc_279 n m (zu_w32_id (by decide) (by decide)), zu_bds]
  have hF : zLN m t 0 (zFL m 1) 0 (zFR t 1) := Or.inl ⟨rfl, rfl, zFLT_of (by decide) hS.2.1⟩
  by_cases hk : m 45 4 = 1 ∧ 0 ≤ m 45 5 ∧ m 45 5 < 0 + 12
  · obtain ⟨k1, k2⟩ := hw.mp hk
    have hK := hS.2.2.1
    rw [hk.1, k1] at hK
    obtain ⟨e, k0⟩ := zKV_wv hK k2
    obtain ⟨x, hx⟩ : ∃ x, t 190 9 = x := ⟨_, rfl⟩
    rw [if_pos hk, if_pos (show (1 : Int) ≠ 0 by decide), if_neg (show ¬ t 190 8 ≠ 1 from fun q => q k1), if_pos k2]
    rw [hx] at e k0 k2
    rw [e, hx]
    have hc : x = 0 ∨ (1 ≤ x ∧ x ≤ 3) ∨ x = 4 ∨ x = 5 ∨ x = 6 ∨ x = 7 ∨ x = 8 ∨ x = 9 ∨ x = 10 ∨ x = 11 := by
      clear hX hD hw hF hS hK
      omega
    rcases hc with rfl | hc | rfl | rfl | rfl | rfl | rfl | rfl | rfl | rfl
    · rw [if_pos rfl, if_neg (show ¬ (0 : Int) ≠ 0 by decide)]
      exact zw_pair (zp_garden n h hS hD) (fun v m' w t' hp => zp_tail n hp)
    · have y0 : x ≠ 0 := by clear hX hD hw hF hS hK; omega
      have y3 : ¬ 3 < x := by clear hX hD hw hF hS hK; omega
      have y4 : ¬ x = 4 := by clear hX hD hw hF hS hK; omega
      have y5 : ¬ x = 5 := by clear hX hD hw hF hS hK; omega
      have y11 : ¬ x = 11 := by clear hX hD hw hF hS hK; omega
      have w1 : zu_w32 (zu_w32 (x - 1) + 1) = x := by
        rw [zu_w32_id (z := x - 1) (by clear hX hD hw hF hS hK; omega) (by clear hX hD hw hF hS hK; omega), zu_w32_id (by clear hX hD hw hF hS hK; omega) (by clear hX hD hw hF hS hK; omega)]
        clear hX hD hw hF hS hK
        omega
      rw [if_neg y0, if_neg y4, if_neg y5, if_neg y11, if_neg y3, if_pos (show x ≠ 0 from y0), if_neg y3, w1]
      exact zw_pair (zp_thing n h hS hD e hc) (fun v m' w t' hp => zp_tail n hp)
    · rw [if_neg (show ¬ (4 : Int) = 0 by decide), if_pos (show (4 : Int) = 4 from rfl), if_pos (show (4 : Int) ≠ 0 by decide), if_pos (show (3 : Int) < 4 by decide), if_neg (show ¬ (4 : Int) ≠ 4 by decide)]
      exact zw_pair (zp_egg n h hS hD) (fun v m' w t' hp => zp_tail n hp)
    · rw [if_neg (show ¬ (5 : Int) = 0 by decide), if_neg (show ¬ (5 : Int) = 4 by decide), if_pos (show (5 : Int) = 5 from rfl), if_pos (show (5 : Int) ≠ 0 by decide), if_pos (show (3 : Int) < 5 by decide), if_pos (show (5 : Int) ≠ 4 by decide), if_neg (show ¬ (5 : Int) ≠ 5 by decide)]
      exact zw_pair (zp_child n h hS hD) (fun v m' w t' hp => zp_tail n hp)
    · rw [if_neg (show ¬ (6 : Int) = 0 by decide), if_neg (show ¬ (6 : Int) = 4 by decide), if_neg (show ¬ (6 : Int) = 5 by decide), if_neg (show ¬ (6 : Int) = 11 by decide), if_pos (show (3 : Int) < 6 by decide), if_pos (show (6 : Int) ≠ 0 by decide), if_pos (show (3 : Int) < 6 by decide), if_pos (show (6 : Int) ≠ 4 by decide), if_pos (show (6 : Int) ≠ 5 by decide), if_pos (show (6 : Int) ≠ 11 by decide)]
      exact zw_pair (zp_set6 n h hS hD e hx) (fun v m' w t' hp => zp_tail n hp)
    · rw [if_neg (show ¬ (7 : Int) = 0 by decide), if_neg (show ¬ (7 : Int) = 4 by decide), if_neg (show ¬ (7 : Int) = 5 by decide), if_neg (show ¬ (7 : Int) = 11 by decide), if_pos (show (3 : Int) < 7 by decide), if_pos (show (7 : Int) ≠ 0 by decide), if_pos (show (3 : Int) < 7 by decide), if_pos (show (7 : Int) ≠ 4 by decide), if_pos (show (7 : Int) ≠ 5 by decide), if_pos (show (7 : Int) ≠ 11 by decide)]
      exact zw_pair (zp_set7 n h hS hD e hx) (fun v m' w t' hp => zp_tail n hp)
    · rw [if_neg (show ¬ (8 : Int) = 0 by decide), if_neg (show ¬ (8 : Int) = 4 by decide), if_neg (show ¬ (8 : Int) = 5 by decide), if_neg (show ¬ (8 : Int) = 11 by decide), if_pos (show (3 : Int) < 8 by decide), if_pos (show (8 : Int) ≠ 0 by decide), if_pos (show (3 : Int) < 8 by decide), if_pos (show (8 : Int) ≠ 4 by decide), if_pos (show (8 : Int) ≠ 5 by decide), if_pos (show (8 : Int) ≠ 11 by decide)]
      exact zw_pair (zp_set8 n h hS hD e hx) (fun v m' w t' hp => zp_tail n hp)
    · rw [if_neg (show ¬ (9 : Int) = 0 by decide), if_neg (show ¬ (9 : Int) = 4 by decide), if_neg (show ¬ (9 : Int) = 5 by decide), if_neg (show ¬ (9 : Int) = 11 by decide), if_pos (show (3 : Int) < 9 by decide), if_pos (show (9 : Int) ≠ 0 by decide), if_pos (show (3 : Int) < 9 by decide), if_pos (show (9 : Int) ≠ 4 by decide), if_pos (show (9 : Int) ≠ 5 by decide), if_pos (show (9 : Int) ≠ 11 by decide)]
      exact zw_pair (zp_set9 n h hS hD e hx) (fun v m' w t' hp => zp_tail n hp)
    · rw [if_neg (show ¬ (10 : Int) = 0 by decide), if_neg (show ¬ (10 : Int) = 4 by decide), if_neg (show ¬ (10 : Int) = 5 by decide), if_neg (show ¬ (10 : Int) = 11 by decide), if_pos (show (3 : Int) < 10 by decide), if_pos (show (10 : Int) ≠ 0 by decide), if_pos (show (3 : Int) < 10 by decide), if_pos (show (10 : Int) ≠ 4 by decide), if_pos (show (10 : Int) ≠ 5 by decide), if_pos (show (10 : Int) ≠ 11 by decide)]
      exact zw_pair (zp_set10 n h hS hD e hx) (fun v m' w t' hp => zp_tail n hp)
    · rw [if_neg (show ¬ (11 : Int) = 0 by decide), if_neg (show ¬ (11 : Int) = 4 by decide), if_neg (show ¬ (11 : Int) = 5 by decide), if_pos (show (11 : Int) = 11 from rfl), if_pos (show (11 : Int) ≠ 0 by decide), if_pos (show (3 : Int) < 11 by decide), if_pos (show (11 : Int) ≠ 4 by decide), if_pos (show (11 : Int) ≠ 5 by decide), if_neg (show ¬ (11 : Int) ≠ 11 by decide)]
      exact zw_pair (zp_law n h hS hD hX hBN hK10 hKN h21) (fun v m' w t' hp => zp_tailE n hp)
  · rw [if_neg hk, if_neg (show ¬ (0 : Int) ≠ 0 by decide), zc_257, zu_bds, zu_b0, zc_85, zu_bds, zu_b0]
    refine zw_some ?_
    refine zw_ite (fun _ => zw_some hF) (fun q1 => zw_ite (fun q2 => ?_) (fun _ => zw_some hF))
    exact absurd (hw.mpr ⟨Decidable.not_not.mp q1, q2⟩) hk

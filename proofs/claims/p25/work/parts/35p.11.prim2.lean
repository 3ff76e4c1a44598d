theorem zLAG_r {W : List (Nat × Nat)} {m t t' : zu_m} (h : zLAG m t) (hf : zfr W t t') (hd : zdis W [(100, 0), (28, 7), (28, 8), (28, 9), (28, 10), (28, 11)] = true) : zLAG m t' := by
  have e := zdis_fr hf hd
  unfold zLAG at h ⊢
  have e191 : t' 191 = t 191 := funext (fun i => e 191 i (by rw [zq_191]; rfl))
  rw [e191, e 190 6 (by rw [zq_190]; rfl), e 190 7 (by rw [zq_190]; rfl), e 190 8 (by rw [zq_190]; rfl), e 190 9 (by rw [zq_190]; rfl), e 190 10 (by rw [zq_190]; rfl)]
  exact h
theorem zLAG_l {W : List (Nat × Nat)} {m m' t : zu_m} (h : zLAG m t) (hf : zfr W m m') (hd : zdis W [(9, 4)] = true) : zLAG m' t := by
  have e := zdis_fr hf hd
  unfold zLAG at h ⊢
  rw [e 45 3 (by rw [zq_45]; rfl)]
  exact h
theorem zPO_0 {WA WB : List (Nat × Nat)} {m t : zu_m} {G : zu_m → zu_m → Prop} {m' t' : zu_m} (h : zFLT m' t') : zPO WA WB m t G 0 m' 0 t' := Or.inl ⟨rfl, rfl, h⟩
def zWSc : List (Nat × Nat) := [(3, 7), (3, 8), (3, 9), (9, 4), (9, 5), (9, 6), (9, 7)]
def zWTc : List (Nat × Nat) := [(28, 8), (28, 9), (28, 10), (28, 11), (28, 12), (28, 24), (28, 43)]
/-- readCell and cellRead -/
theorem zp_cell (n : Nat) {m t : zu_m} (h : zST m t) (hl : zLAG m t) (hw : m 6 0 = t 190 17) (hh : m 6 1 = t 190 18) : zw (zu_call (zt_T n) 262 [(7, 5)] m) (fun v m' => zw (zu_call (zt_T n) 96 [(40, 190)] t) (fun w t' => zPO zWSc zWTc m t (fun m' t' => 0 ≤ m' 5 8 ∧ m' 5 8 ≤ 47 ∧ m' 5 8 = t' 190 11 ∧ m' 5 6 = 1 ∧ t' 190 23 = 1 ∧ m' 45 6 = t' 190 42) v m' w t')) := by
  have b0 := zi_rd h.1 zq_6 zb_4_0
  have b1 := zi_rd h.1 zq_6 zb_4_1
  refine zw_eq (zu_call_at (zt_T n) (zm_262 n) (zdp_262 n) _ _ _ _ _ rfl (zr_262_0 n _ _ 5 m)) ?_
  rw [zu_call_at (zt_T n) (zm_96 n) (zdp_96 n) _ _ _ _ _ rfl (zr_96_0 n _ _ 190 t), zu_b1, zu_b1]
  generalize hm1 : zu_up m 5 6 1 = m1
  generalize ht1 : zu_up t 190 23 1 = t1
  have hI1 := zi_up hm1 h.1 zq_5 zb_3_6 (by omega) (by omega)
  have hf1 : zfr [(3, 7)] m m1 := zfr_up hm1 (zfr_rf _ _) zq_5 rfl
  have hIt1 := zi_up ht1 h.2.1 zq_190 zb_28_23 (by omega) (by omega)
  have hft1 : zfr [(28, 24)] t t1 := zfr_up ht1 (zfr_rf _ _) zq_190 rfl
  have h1 := zST_r (zST_l h hI1 hf1 rfl) hIt1 hft1 rfl
  have hl1 := zLAG_r (zLAG_l hl hf1 rfl) hft1 rfl
  have c0 : m1 6 0 = m 6 0 := zfr_ap hf1 zq_6 rfl
  have c1 : m1 6 1 = m 6 1 := zfr_ap hf1 zq_6 rfl
  have d0 : t1 190 17 = t 190 17 := zfr_ap hft1 zq_190 rfl
  have d1 : t1 190 18 = t 190 18 := zfr_ap hft1 zq_190 rfl
  have c6 : m1 5 6 = 1 := zs_eq hm1
  have d23 : t1 190 23 = 1 := zs_eq ht1
  have w1 := zu_w32_id (z := m 6 0 - 1) (by omega) (by omega)
  rw [d0, ← hw, c0, w1]
  refine zw_pair (zp_num n h1 hl1 (by omega) (by omega)) (fun v m2 w t2 hp => ?_)
  rcases hp with ⟨rfl, rfl, hF⟩ | ⟨rfl, rfl, h2, hl2, hf2, hft2, p2, g1, g2, g3, g4⟩
  · rw [if_neg (by decide), if_neg (by decide), zu_b0, zu_b0]
    exact zw_some (zw_some (zPO_0 hF))
  rw [if_pos (by decide), if_pos (by decide)]
  generalize ht3 : zu_up t2 190 42 (t2 190 10) = t3
  have bnd := zi_rd h2.2.1 zq_190 zb_28_10
  have hIt3 := zi_up ht3 h2.2.1 zq_190 zb_28_42 (by omega) (by omega)
  have hft3 : zfr [(28, 43)] t2 t3 := zfr_up ht3 (zfr_rf _ _) zq_190 rfl
  have h3 := zST_r h2 hIt3 hft3 rfl
  have hl3 := zLAG_r hl2 hft3 rfl
  have c1' : m2 6 1 = m 6 1 := (zfr_ap hf2 zq_6 rfl).trans c1
  have c0' : m2 6 0 = m 6 0 := (zfr_ap hf2 zq_6 rfl).trans c0
  have d1' : t3 190 18 = m 6 1 := ((zfr_ap hft3 zq_190 rfl).trans (zfr_ap hft2 zq_190 rfl)).trans (d1.trans hh.symm)
  have d0' : t3 190 17 = m 6 0 := ((zfr_ap hft3 zq_190 rfl).trans (zfr_ap hft2 zq_190 rfl)).trans (d0.trans hw.symm)
  have d23' : t3 190 23 = 1 := ((zfr_ap hft3 zq_190 rfl).trans (zfr_ap hft2 zq_190 rfl)).trans d23
  have c6' : m2 5 6 = 1 := (zfr_ap hf2 zq_5 rfl).trans c6
  have p42 : t3 190 42 = t3 190 10 := (zs_eq ht3).trans (zs_ne ht3 (Or.inr (by decide))).symm
  have w2 := zu_w32_id (z := m 6 1 - 1) (by omega) (by omega)
  rw [d1', c1', w2]
  refine zw_pair (zp_num n h3 hl3 (by omega) (by omega)) (fun v m4 w t4 hp => ?_)
  rcases hp with ⟨rfl, rfl, hF⟩ | ⟨rfl, rfl, h4, hl4, hf4, hft4, p4, g5, g6, g7, g8⟩
  · rw [if_neg (by decide), if_neg (by decide), zu_b0, zu_b0]
    exact zw_some (zw_some (zPO_0 hF))
  rw [if_pos (by decide), if_pos (by decide), zu_b1, zu_b1]
  have c0'' : m4 6 0 = m 6 0 := (zfr_ap hf4 zq_6 rfl).trans c0'
  have d0'' : t4 190 17 = m 6 0 := (zfr_ap hft4 zq_190 rfl).trans d0'
  have k1 := Int.mul_le_mul_of_nonneg_right (show m4 5 7 ≤ 5 by omega) (show 0 ≤ m 6 0 by omega)
  have k2 := Int.mul_nonneg (show 0 ≤ m4 5 7 by omega) (show 0 ≤ m 6 0 by omega)
  have w3 := zu_w32_id (z := m4 5 7 * m 6 0) (by omega) (by omega)
  have w4 := zu_w32_id (z := m4 5 7 * m 6 0 + m2 5 7) (by omega) (by omega)
  have e1 : zu_w32 (zu_w32 (m4 5 7 * m4 6 0) + m2 5 7) = m4 5 7 * m 6 0 + m2 5 7 := by rw [c0'', w3, w4]
  have e2 : zu_w32 (zu_w32 (t4 190 17 * t4 190 11) + t2 190 11) = m4 5 7 * m 6 0 + m2 5 7 := by rw [d0'', ← g7, Int.mul_comm, w3, ← g3, w4]
  rw [e1, e2]
  generalize hm5 : zu_up m4 5 8 (m4 5 7 * m 6 0 + m2 5 7) = m5
  generalize ht5 : zu_up t4 190 11 (m4 5 7 * m 6 0 + m2 5 7) = t5
  have hI5 := zi_up hm5 h4.1 zq_5 zb_3_8 (by omega) (by omega)
  have hf5 : zfr [(3, 9)] m4 m5 := zfr_up hm5 (zfr_rf _ _) zq_5 rfl
  have hIt5 := zi_up ht5 h4.2.1 zq_190 zb_28_11 (by omega) (by omega)
  have hft5 : zfr [(28, 12)] t4 t5 := zfr_up ht5 (zfr_rf _ _) zq_190 rfl
  refine zw_some (zw_some (Or.inr ⟨rfl, rfl, zST_r (zST_l h4 hI5 hf5 rfl) hIt5 hft5 rfl, zLAG_r (zLAG_l hl4 hf5 rfl) hft5 rfl, ?_, ?_, ?_, ?_⟩))
  · exact zfr_tr (zfr_tr (zfr_tr (zfr_tr (zfr_rf zWSc m) hf1 rfl) hf2 rfl) hf4 rfl) hf5 rfl
  · exact zfr_tr (zfr_tr (zfr_tr (zfr_tr (zfr_tr (zfr_rf zWTc t) hft1 rfl) hft2 rfl) hft3 rfl) hft4 rfl) hft5 rfl
  · have p1 : m1 45 3 = m 45 3 := zfr_ap hf1 zq_45 rfl
    have p5 : m5 45 3 = m4 45 3 := zfr_ap hf5 zq_45 rfl
    omega
  · have q1 : m5 5 8 = m4 5 7 * m 6 0 + m2 5 7 := zs_eq hm5
    have q2 : t5 190 11 = m4 5 7 * m 6 0 + m2 5 7 := zs_eq ht5
    have q3 : m5 5 6 = 1 := ((zfr_ap hf5 zq_5 rfl).trans (zfr_ap hf4 zq_5 rfl)).trans c6'
    have q4 : t5 190 23 = 1 := ((zfr_ap hft5 zq_190 rfl).trans (zfr_ap hft4 zq_190 rfl)).trans d23'
    have q5 : m5 45 6 = m4 45 6 := zfr_ap hf5 zq_45 rfl
    have q6 : t5 190 42 = t3 190 42 := (zfr_ap hft5 zq_190 rfl).trans (zfr_ap hft4 zq_190 rfl)
    exact ⟨by omega, by omega, by omega, q3, q4, by omega⟩
/-- readChoice and pick -/
theorem zp_pick (n : Nat) {m t : zu_m} {a k hi : Int} (h : zST m t) (hl : zLAG m t) (ha : 0 ≤ a ∧ 1 ≤ k ∧ a + k ≤ 23) (hhi : hi = a + k - 1) : zw (zu_call (zt_T n) 261 [(7, 5), (0, a), (0, k)] m) (fun v m' => zw (zu_call (zt_T n) 97 [(40, 190), (0, a), (0, hi)] t) (fun w t' => zPO zWS zWT m t (fun m' t' => 0 ≤ m' 5 7 ∧ m' 5 7 < k ∧ m' 5 7 = t' 190 11) v m' w t')) := by
  have w0 := zu_w32_id (z := a + k) (by omega) (by omega)
  refine zw_eq (zu_call_at (zt_T n) (zm_261 n) (zdp_261 n) _ _ _ _ _ rfl (zr_261_0 n _ _ 5 a k m)) ?_
  rw [zu_call_at (zt_T n) (zm_97 n) (zdp_97 n) _ _ _ _ _ rfl (zr_97_0 n _ _ 190 a hi t)]
  refine zw_bd (zw_mono (zp_adv n h hl) (fun _ m1 hs => ?_))
  obtain ⟨hST, hf, ⟨s1, s2, s3, s4, -⟩, hpos⟩ := hs
  unfold zKV at s3
  rw [zc_279 n m1 w0, zu_bds, zc_85, zu_bds, zu_b0]
  by_cases hk : m1 45 4 = 1 ∧ a ≤ m1 45 5 ∧ m1 45 5 < a + k
  · have kk : t 190 8 = 1 ∧ t 190 9 = m1 45 5 := by omega
    have w1 := zu_w32_id (z := m1 45 5 - a) (by omega) (by omega)
    rw [if_pos hk, if_pos (by decide), zu_b1, if_neg (by omega), if_neg (by omega), if_pos (by omega), kk.2, w1]
    refine zw_some ?_
    generalize hm2 : zu_up m1 5 7 (m1 45 5 - a) = m2
    have hI2 := zi_up hm2 hST.1 zq_5 zb_3_7 (by omega) (by omega)
    have hf2 : zfr [(3, 8)] m1 m2 := zfr_up hm2 (zfr_rf _ _) zq_5 rfl
    have e7 : m2 5 7 = m1 45 5 - a := zs_eq hm2
    have e3 : m2 45 3 = m1 45 3 := zs_ne hm2 (Or.inl (by decide))
    refine zw_bd (zw_mono (zp_tkn n (zST_l hST hI2 hf2 rfl) (e3.trans s1)) (fun _ t2 hs => ?_))
    obtain ⟨q1, q2, q3⟩ := hs
    rw [zu_b1]
    generalize ht3 : zu_up t2 190 11 (m1 45 5 - a) = t3
    have hIt3 := zi_up ht3 q1.2.1 zq_190 zb_28_11 (by omega) (by omega)
    have hft3 : zfr [(28, 12)] t2 t3 := zfr_up ht3 (zfr_rf _ _) zq_190 rfl
    have e11 : t3 190 11 = m1 45 5 - a := zs_eq ht3
    refine zw_some (Or.inr ⟨rfl, rfl, zST_r q1 hIt3 hft3 rfl, zLAG_r q3 hft3 rfl, ?_, ?_, by omega, by omega, by omega, by omega⟩)
    · exact zfr_tr (zfr_tr (zfr_rf zWS m) hf rfl) hf2 rfl
    · exact zfr_tr (zfr_tr (zfr_rf zWT t) q2 rfl) hft3 rfl
  · rw [if_neg hk, if_neg (by decide), zc_257, zu_bds, zu_b0]
    refine zw_some ?_
    have hF := zFLT_of (m := m1) (t := t) (f := 1) (by decide) s2
    refine zw_ite (fun _ => zw_some (zPO_0 hF)) (fun q1 => ?_)
    refine zw_ite (fun _ => zw_some (zPO_0 hF)) (fun q2 => ?_)
    refine zw_ite (fun q3 => ?_) (fun _ => zw_some (zPO_0 hF))
    exfalso; omega
/-- readEnd, and what the reference does behind a LINE -/
theorem zp_end (n : Nat) {m t : zu_m} (h : zST m t) (hl : zLAG m t) : zw (zu_call (zt_T n) 259 [(7, 5)] m) (fun v m' => (v = 0 ∧ (¬(t 190 8 = 4 ∧ t 190 9 = 59)) ∧ zFLT m' (zFR t 1)) ∨ (v = 1 ∧ t 190 8 = 4 ∧ t 190 9 = 59 ∧ zST m' t ∧ zfr zWA m m' ∧ m' 45 3 = t 190 7 ∧ m 45 3 ≤ m' 45 3)) := by
  refine zw_eq (zu_call_at (zt_T n) (zm_259 n) (zdp_259 n) _ _ _ _ _ rfl (zr_259_0 n _ _ 5 m)) ?_
  refine zw_bd (zw_mono (zp_adv n h hl) (fun _ m1 hs => ?_))
  obtain ⟨hST, hf, ⟨s1, s2, s3, s4, -⟩, hpos⟩ := hs
  unfold zKV at s3
  rw [zc_278, zu_bds]
  by_cases hk : m1 45 4 = 4 ∧ m1 45 5 = 0
  · rw [if_pos hk, if_pos (by decide), zu_b1]
    exact zw_some (Or.inr ⟨rfl, by omega, by omega, hST, hf, s1, by omega⟩)
  · rw [if_neg hk, if_neg (by decide), zc_257, zu_bds, if_pos rfl, zu_b0]
    exact zw_some (Or.inl ⟨rfl, by omega, zFLT_of (by decide) s2⟩)

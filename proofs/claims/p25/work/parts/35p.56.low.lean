/-! knots that lie stay -/
def zlow (m0 m : zu_m) : Prop := m0 10 6 ≤ m 10 6 ∧ ∀ i, i < m0 10 6 → m 11 i = m0 11 i ∧ m 12 i = m0 12 i
def zlot (t0 t : zu_m) : Prop := t0 190 21 ≤ t 190 21 ∧ ∀ i, 0 ≤ i → i < 64 + t0 190 21 → t 208 i = t0 208 i ∧ t 209 i = t0 209 i ∧ t 210 i = t0 210 i
theorem zlow_rf (m : zu_m) : zlow m m := ⟨Int.le_refl _, fun _ _ => ⟨rfl, rfl⟩⟩
theorem zlot_rf (m : zu_m) : zlot m m := ⟨Int.le_refl _, fun _ _ _ => ⟨rfl, rfl, rfl⟩⟩
theorem zlow_go {a b c : zu_m} (h1 : zlow a b) (h2 : zlow b c) : zlow a c := ⟨Int.le_trans h1.1 h2.1, fun i hi => ⟨(h2.2 i (Int.lt_of_lt_of_le hi h1.1)).1.trans (h1.2 i hi).1, (h2.2 i (Int.lt_of_lt_of_le hi h1.1)).2.trans (h1.2 i hi).2⟩⟩
theorem zlot_go {a b c : zu_m} (h1 : zlot a b) (h2 : zlot b c) : zlot a c := ⟨Int.le_trans h1.1 h2.1, fun i h0 hi => by
  obtain ⟨p1, p2, p3⟩ := h2.2 i h0 (by have := h1.1; omega)
  obtain ⟨q1, q2, q3⟩ := h1.2 i h0 hi
  exact ⟨p1.trans q1, p2.trans q2, p3.trans q3⟩⟩
theorem zlow_f {W : List (Nat × Nat)} {m m' : zu_m} (hf : zfr W m m') (hd : zdis W [(5, 7), (33, 0), (34, 0)] = true) : zlow m m' := by
  have e := zdis_fr hf hd
  exact ⟨Int.le_of_eq (e 10 6 (by rw [zq_10]; rfl)).symm, fun i _ => ⟨e 11 i (by rw [zq_11]; rfl), e 12 i (by rw [zq_12]; rfl)⟩⟩
theorem zlot_f {W : List (Nat × Nat)} {m m' : zu_m} (hf : zfr W m m') (hd : zdis W [(28, 22), (117, 0), (118, 0), (119, 0)] = true) : zlot m m' := by
  have e := zdis_fr hf hd
  exact ⟨Int.le_of_eq (e 190 21 (by rw [zq_190]; rfl)).symm, fun i _ _ => ⟨e 208 i (by rw [zq_208]; rfl), e 209 i (by rw [zq_209]; rfl), e 210 i (by rw [zq_210]; rfl)⟩⟩
theorem zlow_ne {m0 m m' : zu_m} {a p v : Int} {c : Nat} (hm : zu_up m a p v = m') (h : zlow m0 m) (hc : zcls a = c) (h1 : 5 ≠ c) (h2 : 33 ≠ c) (h3 : 34 ≠ c) : zlow m0 m' := zlow_go h ⟨Int.le_of_eq (zs_ne hm (Or.inl (zc_ne zq_10 hc h1))).symm, fun i _ => ⟨zs_ne hm (Or.inl (zc_ne zq_11 hc h2)), zs_ne hm (Or.inl (zc_ne zq_12 hc h3))⟩⟩
theorem zlow_i {m0 m m' : zu_m} {p v : Int} (hm : zu_up m 10 p v = m') (h : zlow m0 m) (hp : p ≠ 6) : zlow m0 m' := zlow_go h ⟨Int.le_of_eq (zs_ne hm (Or.inr (fun q => hp q.symm))).symm, fun i _ => ⟨zs_ne hm (Or.inl (by decide)), zs_ne hm (Or.inl (by decide))⟩⟩
theorem zlot_ne {m0 m m' : zu_m} {a p v : Int} {c : Nat} (hm : zu_up m a p v = m') (h : zlot m0 m) (hc : zcls a = c) (h1 : 28 ≠ c) (h2 : 117 ≠ c) (h3 : 118 ≠ c) (h4 : 119 ≠ c) : zlot m0 m' := zlot_go h ⟨Int.le_of_eq (zs_ne hm (Or.inl (zc_ne zq_190 hc h1))).symm, fun i _ _ => ⟨zs_ne hm (Or.inl (zc_ne zq_208 hc h2)), zs_ne hm (Or.inl (zc_ne zq_209 hc h3)), zs_ne hm (Or.inl (zc_ne zq_210 hc h4))⟩⟩
theorem zlot_i {m0 m m' : zu_m} {a p v : Int} (hm : zu_up m a p v = m') (h : zlot m0 m) (hc : zcls a = 28) (hp : p ≠ 21) : zlot m0 m' := zlot_go h ⟨Int.le_of_eq (zs_ne hm (Or.inr (fun q => hp q.symm))).symm, fun i _ _ => ⟨zs_ne hm (Or.inl (zc_ne zq_208 hc (by decide))), zs_ne hm (Or.inl (zc_ne zq_209 hc (by decide))), zs_ne hm (Or.inl (zc_ne zq_210 hc (by decide)))⟩⟩
theorem zlow_207 (n : Nat) {k x : Int} {m : zu_m} (hI : zi_I m) : zl (zu_call (zt_T n) 207 [(10, 10), (0, k), (0, x)] m) (fun _ m' => zlow m m') := by
  have b6 := zi_rd hI zq_10 zb_5_6
  by_cases hn : m 10 6 < 64
  · refine zl_mono (zy_207 n hn b6.1) (fun _ m' hs => ?_)
    obtain ⟨d1, d2, d3, d4, d5⟩ := hs
    exact ⟨by omega, fun i hi => ⟨d4 i (by omega), d5 i (by omega)⟩⟩
  · refine zl_eq (zu_call_at (zt_T n) (zm_207 n) (zdp_207 n) _ _ _ _ _ rfl (zr_207_0 n _ _ 10 k x m)) ?_
    rw [if_pos (show 64 ≤ m 10 6 by omega)]
    exact zl_some (zlow_rf m)
theorem zlot_110 (n : Nat) {k a b : Int} {t : zu_m} (hI : zi_I t) : zl (zu_call (zt_T n) 110 [(40, 190), (0, k), (0, a), (0, b)] t) (fun _ t' => zlot t t') := by
  have b21 := zi_rd hI zq_190 zb_28_21
  have b46 := zi_rd hI zq_190 zb_28_46
  refine zl_mono (zy_110g n b21.1 b21.2 b46.1) (fun _ t' hs => ?_)
  obtain ⟨-, -, c1, -, -, -, c5, c6, c7, -⟩ := hs
  exact ⟨by omega, fun i h0 hi => ⟨c5 i (by omega), c6 i (by omega), c7 i (by omega)⟩⟩
theorem zk_207k (n : Nat) {a0 a1 a2 : Int} {m0 : zu_m} (hIm0 : zi_I m0) (hc0 : zcls a0 = 5) (ha1 : 0 ≤ a1 ∧ a1 ≤ 17) (ha2 : (-2147483648) ≤ a2 ∧ a2 ≤ 9999)   (hxp0 : a1 = 17 → (0 ≤ a2 ∧ a2 ≤ 6)) (hRK10m0 : zR_K10 m0) : zw (zu_call (zt_T n) 207 [(10, a0), (0, a1), (0, a2)] m0) (fun v m => zi_I m ∧ zfr [(5, 7), (33, 0), (34, 0)] m0 m ∧ zlow m0 m ∧ zR_K10 m ∧ True ∧ (1 ≤ m a0 6 ∧ m a0 6 ≤ 64)) := by
  obtain rfl := zone_10 hc0
  refine zw_mono (zw_zl (zk_207 n hIm0 hc0 ha1 ha2 hxp0 hRK10m0) (zlow_207 n hIm0)) (fun v m hs => ?_)
  obtain ⟨⟨h1, h2, h3⟩, h4⟩ := hs
  exact ⟨h1, h2, h4, h3⟩
theorem zk_110k (n : Nat) {a0 a1 a2 a3 : Int} {m0 : zu_m} (hIm0 : zi_I m0) (hc0 : zcls a0 = 28) (ha1 : 0 ≤ a1 ∧ a1 ≤ 14) (ha2 : 0 ≤ a2 ∧ a2 ≤ 9999) (ha3 : (-1) ≤ a3 ∧ a3 ≤ 63)   (hxp0 : (m0 a0 21) ≤ 63) (hxp1 : (m0 a0 46) ≤ 95) (hxp2 : a1 = 1 → a2 ≤ 6) (hxp3 : 2 ≤ a1 → a2 ≤ 63) (hxp4 : 3 ≤ a1 → 0 ≤ a3) (hRKNm0 : zR_KN m0) : zw (zu_call (zt_T n) 110 [(40, a0), (0, a1), (0, a2), (0, a3)] m0) (fun v m => zi_I m ∧ zfr [(28, 22), (28, 47), (117, 0), (118, 0), (119, 0), (121, 0)] m0 m ∧ zlot m0 m ∧ zR_KN m ∧ True ∧ (1 ≤ m a0 21 ∧ m a0 21 ≤ 64) ∧ (1 ≤ m a0 46 ∧ m a0 46 ≤ 96) ∧ ((m a0 21) = (m0 a0 21) + 1) ∧ ((m a0 46) = (m0 a0 46) + 1)) := by
  obtain rfl := zone_190 hc0
  refine zw_mono (zw_zl (zk_110 n hIm0 hc0 ha1 ha2 ha3 hxp0 hxp1 hxp2 hxp3 hxp4 hRKNm0) (zlot_110 n hIm0)) (fun v m hs => ?_)
  obtain ⟨⟨h1, h2, h3⟩, h4⟩ := hs
  exact ⟨h1, h2, h4, h3⟩
set_option maxHeartbeats 4000000 in
theorem zl_206k (n : Nat) {a0 a1 : Int} {m0 : zu_m} (hc0 : zcls a0 = 10)  (hxp0 : 1 ≤ a1) : ∀ k : Nat, (∀ (mh : zu_m), zi_I mh → zfr [(5, 7), (10, 4), (33, 0), (34, 0)] m0 mh → zlow m0 mh → (1 ≤ a1 ∧ a1 ≤ 6) → (zop mh = zop m0) → (zR_BN mh) → (zR_K10 mh) → (mh a0 3) * 1 + 0 < (k : Int) → zw (zu_ex (zt_T n) 206 0 [(24, a0), (0, a1)] [] mh) (fun v m => zi_I m ∧ zfr [(5, 7), (10, 4), (33, 0), (34, 0)] m0 m ∧ zlow m0 m ∧ zR_BN m ∧ zR_K10 m ∧ True ∧ (zop m = zop m0))) := by
  intro k
  induction k with
  | zero => exact fun mh hImh hFmh hLmh hba1 hH0 hRBNmh hRK10mh hM => by have zq0 := zi_rd hImh hc0 zb_10_3; exfalso; omega
  | succ k ih =>
    intro mh hImh hFmh hLmh hba1 hH0 hRBNmh hRK10mh hM
    refine zw_eq (zu_rega_at (zt_T n) (zm_206 n) (zdp_206 n) _ _ _ _ _ _ (zr_206_0 n _ _ a0 a1 mh)) ?_
    have r1 : 0 ≤ (mh a0 3) ∧ (mh a0 3) ≤ 72 := zi_rd hImh hc0 zb_10_3
    have g2 := zop_bd hImh hc0
    refine zw_ite (fun h3 => ?_) (fun h3 => ?_)
    · exact zw_some ⟨hImh, hFmh, hLmh, hRBNmh, hRK10mh, trivial, by omega⟩
    · have w4 := zu_w32_id (z := (mh a0 3) - 1) (by omega) (by omega)
      have b5 : 0 ≤ (zu_w32 ((mh a0 3) - 1)) ∧ (zu_w32 ((mh a0 3) - 1)) < 72 := by omega
      refine zw_if b5 ?_
      have r6 : 0 ≤ (mh 48 (zu_w32 ((mh a0 3) - 1))) ∧ (mh 48 (zu_w32 ((mh a0 3) - 1))) ≤ 17 := zi_rd hImh zq_48 (zb_47 _)
      have s7 : (mh 48 (zu_w32 ((mh a0 3) - 1))) = 1 → mh 2 (mh 48 (zu_w32 ((mh a0 3) - 1))) = 0 := fun e => by rw [e]; exact hRBNmh.1
      have b8 : 0 ≤ (mh 48 (zu_w32 ((mh a0 3) - 1))) ∧ (mh 48 (zu_w32 ((mh a0 3) - 1))) < 18 := by omega
      refine zw_if b8 ?_
      have r9 : 0 ≤ (mh 2 (mh 48 (zu_w32 ((mh a0 3) - 1)))) ∧ (mh 2 (mh 48 (zu_w32 ((mh a0 3) - 1)))) ≤ 6 := zi_rd hImh zq_2 (zb_1 _)
      refine zw_ite (fun h10 => ?_) (fun h10 => ?_)
      · exact zw_some ⟨hImh, hFmh, hLmh, hRBNmh, hRK10mh, trivial, by omega⟩
      · generalize hmm11 : zu_up mh a0 3 (zu_w32 ((mh a0 3) - 1)) = m11
        have hIm11 := zi_up hmm11 hImh hc0 zb_10_3 (by omega) (by omega)
        have hFm11 := zfr_up hmm11 hFmh hc0 rfl
        have hLm11 := zlow_ne hmm11 hLmh hc0 (by decide) (by decide) (by decide)
        have hRBNm11 := zR_BN_fr (zdis_fr (zfr_up hmm11 (zfr_rf [(10, 4)] _) hc0 rfl) rfl) hRBNmh
        have hRK10m11 := zR_K10_fr (zdis_fr (zfr_up hmm11 (zfr_rf [(10, 4)] _) hc0 rfl) rfl) hRK10mh
        have g12 := zop_pop hmm11 hc0 (by omega) (by omega)
        have g13 := zop_bd hIm11 hc0
        have r14 : 0 ≤ (m11 a0 3) ∧ (m11 a0 3) ≤ 72 := zi_rd hIm11 hc0 zb_10_3
        have e15 : (m11 a0 3) = (zu_w32 ((mh a0 3) - 1)) := (zs_eq hmm11)
        have b16 : 0 ≤ (m11 a0 3) ∧ (m11 a0 3) < 72 := by omega
        refine zw_if b16 ?_
        have r17 : 0 ≤ (m11 48 (m11 a0 3)) ∧ (m11 48 (m11 a0 3)) ≤ 17 := zi_rd hIm11 zq_48 (zb_47 _)
        refine zw_bd (zw_mono (zk_207k n hIm11 zq_10 ⟨by omega, by omega⟩ ⟨by omega, by omega⟩ (by omega) hRK10m11) (fun v19 m18 hqm18 => ?_))
        obtain ⟨hIm18, hfm18, hlm18, hvm18⟩ := hqm18
        have hFm18 := zfr_tr hFm11 hfm18 rfl
        have hLm18 := zlow_go hLm11 hlm18
        obtain ⟨hRK10m18, hvm18⟩ := hvm18
        have g20 := zop_fr (zdis_fr hfm18 rfl)
        have hRBNm18 := zR_BN_fr (zdis_fr hfm18 rfl) hRBNm11
        have g21 := zop_bd hIm18 hc0
        have r22 : 0 ≤ (m18 a0 3) ∧ (m18 a0 3) ≤ 72 := zi_rd hIm18 hc0 zb_10_3
        have e23 : (m18 a0 3) = (m11 a0 3) := (zfr_ap hfm18 hc0 rfl)
        have hM : (m18 a0 3) * 1 + 0 < (k : Int) := by omega
        exact ih  m18 hIm18 hFm18 hLm18 ⟨by omega, by omega⟩ (by omega) hRBNm18 hRK10m18 hM
set_option maxHeartbeats 4000000 in
theorem zk_206k (n : Nat) {a0 a1 : Int} {m0 : zu_m} (hIm0 : zi_I m0) (hc0 : zcls a0 = 10) (ha1 : 1 ≤ a1 ∧ a1 ≤ 6)   (hxp0 : 1 ≤ a1) (hRBNm0 : zR_BN m0) (hRK10m0 : zR_K10 m0) : zw (zu_call (zt_T n) 206 [(24, a0), (0, a1)] m0) (fun v m => zi_I m ∧ zfr [(5, 7), (10, 4), (33, 0), (34, 0)] m0 m ∧ zlow m0 m ∧ zR_BN m ∧ zR_K10 m ∧ True ∧ (zop m = zop m0)) := by
  have hFm0 : zfr [(5, 7), (10, 4), (33, 0), (34, 0)] m0 m0 := zfr_rf _ _
  have hLm0 : zlow m0 m0 := zlow_rf m0
  have g24 := zop_bd hIm0 hc0
  show zw (zu_ex (zt_T n) 206 0 [(24, a0), (0, a1)] [] m0) _
  have r25 : 0 ≤ (m0 a0 3) ∧ (m0 a0 3) ≤ 72 := zi_rd hIm0 hc0 zb_10_3
  have hM : (m0 a0 3) * 1 + 0 < ((73 : Nat) : Int) := by omega
  exact (zl_206k n (m0 := m0) hc0 hxp0 73)  m0 hIm0 hFm0 hLm0 ⟨by omega, by omega⟩ (by omega) hRBNm0 hRK10m0 hM
set_option maxHeartbeats 4000000 in
theorem zk_199k (n : Nat) {a0 : Int} {m0 : zu_m} (hIm0 : zi_I m0) (hc0 : zcls a0 = 10)   (he0 : 1 ≤ m0 a0 6 ∧ m0 a0 6 ≤ 1) (hxp0 : (m0 a0 4) ≤ zop m0) (hRK10m0 : zR_K10 m0) : zw (zu_call (zt_T n) 199 [(24, a0)] m0) (fun v m => zi_I m ∧ zfr [(5, 6), (5, 7), (10, 4), (10, 5), (10, 7), (10, 8), (33, 0), (34, 0), (47, 0), (48, 0)] m0 m ∧ zlow m0 m ∧ zR_K10 m ∧ (0 ≤ v ∧ v ≤ 2) ∧ (v = 0 → (m a0 4) ≤ zop m)) := by
  have hFm0 : zfr [(5, 6), (5, 7), (10, 4), (10, 5), (10, 7), (10, 8), (33, 0), (34, 0), (47, 0), (48, 0)] m0 m0 := zfr_rf _ _
  have hLm0 : zlow m0 m0 := zlow_rf m0
  have r1 : 0 ≤ (m0 a0 4) ∧ (m0 a0 4) ≤ 8 := zi_rd hIm0 hc0 zb_10_4
  have g2 := zop_bd hIm0 hc0
  refine zw_eq (zu_call_at (zt_T n) (zm_199 n) (zdp_199 n) _ _ _ _ _ rfl (zr_199_0 n _ _ a0 m0)) ?_
  have r3 : 0 ≤ (m0 45 4) ∧ (m0 45 4) ≤ 5 := zi_rd hIm0 zq_45 zb_9_4
  refine zw_ite (fun h4 => ?_) (fun h4 => ?_)
  · refine zw_bd (zw_eq (zu_call_at (zt_T n) (zm_279 n) (zdp_279 n) _ _ _ _ _ rfl (zr_279_0 n _ _ 45 26 7 m0)) ?_)
    refine zw_ite (fun h5 => ?_) (fun h5 => ?_)
    · refine zw_b (by omega) ?_
      refine zw_some ?_
      refine zw_ite (fun h6 => ?_) (fun h6 => ?_)
      · refine zw_bd (zw_eq (zu_call_at (zt_T n) (zm_278 n) (zdp_278 n) _ _ _ _ _ rfl (zr_278_0 n _ _ 45 1 m0)) ?_)
        refine zw_ite (fun h7 => ?_) (fun h7 => ?_)
        · refine zw_b (by omega) ?_
          refine zw_some ?_
          refine zw_ite (fun h8 => ?_) (fun h8 => ?_)
          · refine zw_bd (zw_eq (zu_call_at (zt_T n) (zm_279 n) (zdp_279 n) _ _ _ _ _ rfl (zr_279_0 n _ _ 45 25 1 m0)) ?_)
            refine zw_ite (fun h9 => ?_) (fun h9 => ?_)
            · refine zw_b (by omega) ?_
              refine zw_some ?_
              refine zw_ite (fun h10 => ?_) (fun h10 => ?_)
              · exact zw_some ⟨hIm0, hFm0, hLm0, hRK10m0, ⟨by decide, by decide⟩, fun h => absurd h (by decide)⟩
              · exfalso; omega
            · exfalso; omega
          · exfalso; omega
        · have r11 : (-2147483648) ≤ (m0 45 5) ∧ (m0 45 5) ≤ 2147483647 := zi_rd hIm0 zq_45 zb_9_5
          refine zw_ite (fun h12 => ?_) (fun h12 => ?_)
          · refine zw_b (by omega) ?_
            refine zw_some ?_
            refine zw_ite (fun h13 => ?_) (fun h13 => ?_)
            · refine zw_bd (zw_eq (zu_call_at (zt_T n) (zm_279 n) (zdp_279 n) _ _ _ _ _ rfl (zr_279_0 n _ _ 45 25 1 m0)) ?_)
              refine zw_ite (fun h14 => ?_) (fun h14 => ?_)
              · refine zw_b (by omega) ?_
                refine zw_some ?_
                refine zw_ite (fun h15 => ?_) (fun h15 => ?_)
                · exact zw_some ⟨hIm0, hFm0, hLm0, hRK10m0, ⟨by decide, by decide⟩, fun h => absurd h (by decide)⟩
                · exfalso; omega
              · exfalso; omega
            · exfalso; omega
          · refine zw_b (by omega) ?_
            refine zw_some ?_
            refine zw_ite (fun h16 => ?_) (fun h16 => ?_)
            · exfalso; omega
            · refine zw_bd (zw_eq (zu_call_at (zt_T n) (zm_201 n) (zdp_201 n) _ _ _ _ _ rfl (zr_201_0 n _ _ a0 m0)) ?_)
              refine zw_ite (fun h17 => ?_) (fun h17 => ?_)
              · have w18 := zu_w32_id (z := (m0 a0 4) + 1) (by omega) (by omega)
                generalize hmm19 : zu_up m0 a0 4 (zu_w32 ((m0 a0 4) + 1)) = m19
                have hIm19 := zi_up hmm19 hIm0 hc0 zb_10_4 (by omega) (by omega)
                have hFm19 := zfr_up hmm19 hFm0 hc0 rfl
                have hLm19 := zlow_ne hmm19 hLm0 hc0 (by decide) (by decide) (by decide)
                have g20 := zop_fr (zdis_fr (zfr_up hmm19 (zfr_rf [(10, 5)] _) hc0 rfl) rfl)
                have hRK10m19 := zR_K10_fr (zdis_fr (zfr_up hmm19 (zfr_rf [(10, 5)] _) hc0 rfl) rfl) hRK10m0
                have r21 : 0 ≤ (m19 a0 4) ∧ (m19 a0 4) ≤ 8 := zi_rd hIm19 hc0 zb_10_4
                have e22 : (m19 a0 4) = (zu_w32 ((m0 a0 4) + 1)) := (zs_eq hmm19)
                refine zw_b (by omega) ?_
                have b23 : 0 ≤ (m19 a0 4) ∧ (m19 a0 4) < 9 := by omega
                refine zw_if b23 ?_
                generalize hmm24 : zu_up m19 49 (m19 a0 4) 0 = m24
                have hIm24 := zi_up hmm24 hIm19 zq_49 (zb_48 _) (by omega) (by omega)
                have hFm24 := zfr_up hmm24 hFm19 zq_49 rfl
                have hLm24 := zlow_ne hmm24 hLm19 zq_49 (by decide) (by decide) (by decide)
                have g25 := zop_fr (zdis_fr (zfr_up hmm24 (zfr_rf [(48, 0)] _) zq_49 rfl) rfl)
                have hRK10m24 := zR_K10_fr (zdis_fr (zfr_up hmm24 (zfr_rf [(48, 0)] _) zq_49 rfl) rfl) hRK10m19
                refine zw_b (by omega) ?_
                generalize hmm26 : zu_up m24 a0 7 1 = m26
                have hIm26 := zi_up hmm26 hIm24 hc0 zb_10_7 (by omega) (by omega)
                have hFm26 := zfr_up hmm26 hFm24 hc0 rfl
                have hLm26 := zlow_ne hmm26 hLm24 hc0 (by decide) (by decide) (by decide)
                have g27 := zop_fr (zdis_fr (zfr_up hmm26 (zfr_rf [(10, 8)] _) hc0 rfl) rfl)
                have hRK10m26 := zR_K10_fr (zdis_fr (zfr_up hmm26 (zfr_rf [(10, 8)] _) hc0 rfl) rfl) hRK10m24
                refine zw_bd (zw_eq (zu_call_at (zt_T n) (zm_205 n) (zdp_205 n) _ _ _ _ _ rfl (zr_205_0 n _ _ a0 1 m26)) ?_)
                have r28 : 0 ≤ (m26 a0 3) ∧ (m26 a0 3) ≤ 72 := zi_rd hIm26 hc0 zb_10_3
                refine zw_ite (fun h29 => ?_) (fun h29 => ?_)
                · have b30 : 0 ≤ (m26 a0 3) ∧ (m26 a0 3) < 72 := by omega
                  refine zw_if b30 ?_
                  generalize hmm31 : zu_up m26 48 (m26 a0 3) 1 = m31
                  have hIm31 := zi_up hmm31 hIm26 zq_48 (zb_47 _) (by omega) (by omega)
                  have hFm31 := zfr_up hmm31 hFm26 zq_48 rfl
                  have hLm31 := zlow_ne hmm31 hLm26 zq_48 (by decide) (by decide) (by decide)
                  have hRK10m31 := zR_K10_fr (zdis_fr (zfr_up hmm31 (zfr_rf [(47, 0)] _) zq_48 rfl) rfl) hRK10m26
                  have r32 : 0 ≤ (m31 a0 3) ∧ (m31 a0 3) ≤ 72 := zi_rd hIm31 hc0 zb_10_3
                  have e33 : (m31 a0 3) = (m26 a0 3) := (zs_ne hmm31 (Or.inl (zc_ne hc0 zq_48 (by decide))))
                  have w34 := zu_w32_id (z := (m31 a0 3) + 1) (by omega) (by omega)
                  generalize hmm35 : zu_up m31 a0 3 (zu_w32 ((m31 a0 3) + 1)) = m35
                  have hIm35 := zi_up hmm35 hIm31 hc0 zb_10_3 (by omega) (by omega)
                  have hFm35 := zfr_up hmm35 hFm31 hc0 rfl
                  have hLm35 := zlow_ne hmm35 hLm31 hc0 (by decide) (by decide) (by decide)
                  have hRK10m35 := zR_K10_fr (zdis_fr (zfr_up hmm35 (zfr_rf [(10, 4)] _) hc0 rfl) rfl) hRK10m31
                  have g36 := zop_push hmm31 hmm35 hc0 (by omega) (by omega) (by omega)
                  have g37 := zop_bd hIm35 hc0
                  refine zw_some ?_
                  refine zw_some ?_
                  have r38 : 0 ≤ (m35 a0 4) ∧ (m35 a0 4) ≤ 8 := zi_rd hIm35 hc0 zb_10_4
                  have e39 : (m35 a0 4) = (m19 a0 4) := (Eq.trans (zs_ne hmm35 (Or.inr (by decide))) (Eq.trans (zs_ne hmm31 (Or.inl (zc_ne hc0 zq_48 (by decide)))) (Eq.trans (zs_ne hmm26 (Or.inr (by decide))) (zs_ne hmm24 (Or.inl (zc_ne hc0 zq_49 (by decide)))))))
                  exact zw_some ⟨hIm35, hFm35, hLm35, hRK10m35, ⟨by decide, by decide⟩, fun _ => by omega⟩
                · refine zw_some ?_
                  refine zw_some ?_
                  have r40 : 0 ≤ (m26 a0 4) ∧ (m26 a0 4) ≤ 8 := zi_rd hIm26 hc0 zb_10_4
                  have e41 : (m26 a0 4) = (m19 a0 4) := (Eq.trans (zs_ne hmm26 (Or.inr (by decide))) (zs_ne hmm24 (Or.inl (zc_ne hc0 zq_49 (by decide)))))
                  exact zw_some ⟨hIm26, hFm26, hLm26, hRK10m26, ⟨by decide, by decide⟩, fun h => absurd h (by decide)⟩
              · refine zw_some ?_
                exact zw_some ⟨hIm0, hFm0, hLm0, hRK10m0, ⟨by decide, by decide⟩, fun h => absurd h (by decide)⟩
      · exfalso; omega
    · have r42 : (-2147483648) ≤ (m0 45 5) ∧ (m0 45 5) ≤ 2147483647 := zi_rd hIm0 zq_45 zb_9_5
      refine zw_ite (fun h43 => ?_) (fun h43 => ?_)
      · refine zw_b (by omega) ?_
        refine zw_some ?_
        refine zw_ite (fun h44 => ?_) (fun h44 => ?_)
        · refine zw_bd (zw_eq (zu_call_at (zt_T n) (zm_278 n) (zdp_278 n) _ _ _ _ _ rfl (zr_278_0 n _ _ 45 1 m0)) ?_)
          refine zw_ite (fun h45 => ?_) (fun h45 => ?_)
          · refine zw_b (by omega) ?_
            refine zw_some ?_
            refine zw_ite (fun h46 => ?_) (fun h46 => ?_)
            · refine zw_bd (zw_eq (zu_call_at (zt_T n) (zm_279 n) (zdp_279 n) _ _ _ _ _ rfl (zr_279_0 n _ _ 45 25 1 m0)) ?_)
              refine zw_ite (fun h47 => ?_) (fun h47 => ?_)
              · exfalso; omega
              · refine zw_ite (fun h48 => ?_) (fun h48 => ?_)
                · refine zw_b (by omega) ?_
                  refine zw_some ?_
                  refine zw_ite (fun h49 => ?_) (fun h49 => ?_)
                  · exact zw_some ⟨hIm0, hFm0, hLm0, hRK10m0, ⟨by decide, by decide⟩, fun h => absurd h (by decide)⟩
                  · exfalso; omega
                · have w50 := zu_w32_id (z := 25 + 1) (by omega) (by omega)
                  refine zw_ite (fun h51 => ?_) (fun h51 => ?_)
                  · exfalso; omega
                  · refine zw_b (by omega) ?_
                    refine zw_some ?_
                    refine zw_ite (fun h52 => ?_) (fun h52 => ?_)
                    · exfalso; omega
                    · have r53 : 0 ≤ (m0 a0 7) ∧ (m0 a0 7) ≤ 1 := zi_rd hIm0 hc0 zb_10_7
                      refine zw_ite (fun h54 => ?_) (fun h54 => ?_)
                      · exact zw_some ⟨hIm0, hFm0, hLm0, hRK10m0, ⟨by decide, by decide⟩, fun h => absurd h (by decide)⟩
                      · refine zw_bd (zw_eq (zu_call_at (zt_T n) (zm_204 n) (zdp_204 n) _ _ _ _ _ rfl (zr_204_0 n _ _ a0 m0)) ?_)
                        have r55 : 0 ≤ (m0 10 5) ∧ (m0 10 5) ≤ 64 := zi_rd hIm0 zq_10 zb_5_5
                        refine zw_ite (fun h56 => ?_) (fun h56 => ?_)
                        · have w57 := zu_w32_id (z := (m0 10 5) + 1) (by omega) (by omega)
                          generalize hmm58 : zu_up m0 10 5 (zu_w32 ((m0 10 5) + 1)) = m58
                          have hIm58 := zi_up hmm58 hIm0 zq_10 zb_5_5 (by omega) (by omega)
                          have hFm58 := zfr_up hmm58 hFm0 zq_10 rfl
                          have hLm58 := zlow_i hmm58 hLm0 (by decide)
                          have g59 := zop_fr (zdis_fr (zfr_up hmm58 (zfr_rf [(5, 6)] _) zq_10 rfl) rfl)
                          have hRK10m58 := zR_K10_fr (zdis_fr (zfr_up hmm58 (zfr_rf [(5, 6)] _) zq_10 rfl) rfl) hRK10m0
                          refine zw_b (by omega) ?_
                          refine zw_some ?_
                          refine zw_ite (fun h60 => ?_) (fun h60 => ?_)
                          · exfalso; omega
                          · refine zw_bd (zw_eq (zu_call_at (zt_T n) (zm_205 n) (zdp_205 n) _ _ _ _ _ rfl (zr_205_0 n _ _ a0 15 m58)) ?_)
                            have r61 : 0 ≤ (m58 a0 3) ∧ (m58 a0 3) ≤ 72 := zi_rd hIm58 hc0 zb_10_3
                            refine zw_ite (fun h62 => ?_) (fun h62 => ?_)
                            · have b63 : 0 ≤ (m58 a0 3) ∧ (m58 a0 3) < 72 := by omega
                              refine zw_if b63 ?_
                              generalize hmm64 : zu_up m58 48 (m58 a0 3) 15 = m64
                              have hIm64 := zi_up hmm64 hIm58 zq_48 (zb_47 _) (by omega) (by omega)
                              have hFm64 := zfr_up hmm64 hFm58 zq_48 rfl
                              have hLm64 := zlow_ne hmm64 hLm58 zq_48 (by decide) (by decide) (by decide)
                              have hRK10m64 := zR_K10_fr (zdis_fr (zfr_up hmm64 (zfr_rf [(47, 0)] _) zq_48 rfl) rfl) hRK10m58
                              have r65 : 0 ≤ (m64 a0 3) ∧ (m64 a0 3) ≤ 72 := zi_rd hIm64 hc0 zb_10_3
                              have e66 : (m64 a0 3) = (m58 a0 3) := (zs_ne hmm64 (Or.inl (zc_ne hc0 zq_48 (by decide))))
                              have w67 := zu_w32_id (z := (m64 a0 3) + 1) (by omega) (by omega)
                              generalize hmm68 : zu_up m64 a0 3 (zu_w32 ((m64 a0 3) + 1)) = m68
                              have hIm68 := zi_up hmm68 hIm64 hc0 zb_10_3 (by omega) (by omega)
                              have hFm68 := zfr_up hmm68 hFm64 hc0 rfl
                              have hLm68 := zlow_ne hmm68 hLm64 hc0 (by decide) (by decide) (by decide)
                              have hRK10m68 := zR_K10_fr (zdis_fr (zfr_up hmm68 (zfr_rf [(10, 4)] _) hc0 rfl) rfl) hRK10m64
                              have g69 := zop_push hmm64 hmm68 hc0 (by omega) (by omega) (by omega)
                              have g70 := zop_bd hIm68 hc0
                              refine zw_some ?_
                              have r71 : 0 ≤ (m68 a0 4) ∧ (m68 a0 4) ≤ 8 := zi_rd hIm68 hc0 zb_10_4
                              have e72 : (m68 a0 4) = (m0 a0 4) := (Eq.trans (zs_ne hmm68 (Or.inr (by decide))) (Eq.trans (zs_ne hmm64 (Or.inl (zc_ne hc0 zq_48 (by decide)))) (zs_ne hmm58 (Or.inl (zc_ne hc0 zq_10 (by decide))))))
                              exact zw_some ⟨hIm68, hFm68, hLm68, hRK10m68, ⟨by decide, by decide⟩, fun _ => by omega⟩
                            · refine zw_some ?_
                              have r73 : 0 ≤ (m58 a0 4) ∧ (m58 a0 4) ≤ 8 := zi_rd hIm58 hc0 zb_10_4
                              have e74 : (m58 a0 4) = (m0 a0 4) := (zs_ne hmm58 (Or.inl (zc_ne hc0 zq_10 (by decide))))
                              exact zw_some ⟨hIm58, hFm58, hLm58, hRK10m58, ⟨by decide, by decide⟩, fun h => absurd h (by decide)⟩
                        · refine zw_b (by omega) ?_
                          refine zw_some ?_
                          refine zw_ite (fun h75 => ?_) (fun h75 => ?_)
                          · exact zw_some ⟨hIm0, hFm0, hLm0, hRK10m0, ⟨by decide, by decide⟩, fun h => absurd h (by decide)⟩
                          · exfalso; omega
            · exfalso; omega
          · exfalso; omega
        · exfalso; omega
      · have w76 := zu_w32_id (z := 26 + 7) (by omega) (by omega)
        refine zw_ite (fun h77 => ?_) (fun h77 => ?_)
        · refine zw_b (by omega) ?_
          refine zw_some ?_
          refine zw_ite (fun h78 => ?_) (fun h78 => ?_)
          · refine zw_bd (zw_eq (zu_call_at (zt_T n) (zm_278 n) (zdp_278 n) _ _ _ _ _ rfl (zr_278_0 n _ _ 45 1 m0)) ?_)
            refine zw_ite (fun h79 => ?_) (fun h79 => ?_)
            · refine zw_b (by omega) ?_
              refine zw_some ?_
              refine zw_ite (fun h80 => ?_) (fun h80 => ?_)
              · refine zw_bd (zw_eq (zu_call_at (zt_T n) (zm_279 n) (zdp_279 n) _ _ _ _ _ rfl (zr_279_0 n _ _ 45 25 1 m0)) ?_)
                refine zw_ite (fun h81 => ?_) (fun h81 => ?_)
                · exfalso; omega
                · refine zw_ite (fun h82 => ?_) (fun h82 => ?_)
                  · exfalso; omega
                  · have w83 := zu_w32_id (z := 25 + 1) (by omega) (by omega)
                    refine zw_ite (fun h84 => ?_) (fun h84 => ?_)
                    · refine zw_b (by omega) ?_
                      refine zw_some ?_
                      refine zw_ite (fun h85 => ?_) (fun h85 => ?_)
                      · exact zw_some ⟨hIm0, hFm0, hLm0, hRK10m0, ⟨by decide, by decide⟩, fun h => absurd h (by decide)⟩
                      · exfalso; omega
                    · exfalso; omega
              · exfalso; omega
            · exfalso; omega
          · exfalso; omega
        · refine zw_b (by omega) ?_
          refine zw_some ?_
          refine zw_ite (fun h86 => ?_) (fun h86 => ?_)
          · exfalso; omega
          · have w87 := zu_w32_id (z := (m0 45 5) - 26) (by omega) (by omega)
            refine zw_bd (zw_eq (zu_call_at (zt_T n) (zm_200 n) (zdp_200 n) _ _ _ _ _ rfl (zr_200_0 n _ _ a0 17 (zu_w32 ((m0 45 5) - 26)) m0)) ?_)
            refine zw_bd (zw_eq (zu_call_at (zt_T n) (zm_204 n) (zdp_204 n) _ _ _ _ _ rfl (zr_204_0 n _ _ a0 m0)) ?_)
            have r88 : 0 ≤ (m0 10 5) ∧ (m0 10 5) ≤ 64 := zi_rd hIm0 zq_10 zb_5_5
            refine zw_ite (fun h89 => ?_) (fun h89 => ?_)
            · have w90 := zu_w32_id (z := (m0 10 5) + 1) (by omega) (by omega)
              generalize hmm91 : zu_up m0 10 5 (zu_w32 ((m0 10 5) + 1)) = m91
              have hIm91 := zi_up hmm91 hIm0 zq_10 zb_5_5 (by omega) (by omega)
              have hFm91 := zfr_up hmm91 hFm0 zq_10 rfl
              have hLm91 := zlow_i hmm91 hLm0 (by decide)
              have g92 := zop_fr (zdis_fr (zfr_up hmm91 (zfr_rf [(5, 6)] _) zq_10 rfl) rfl)
              have hRK10m91 := zR_K10_fr (zdis_fr (zfr_up hmm91 (zfr_rf [(5, 6)] _) zq_10 rfl) rfl) hRK10m0
              refine zw_b (by omega) ?_
              refine zw_some ?_
              refine zw_ite (fun h93 => ?_) (fun h93 => ?_)
              · refine zw_bd (zw_mono (zk_207k n hIm91 zq_10 ⟨by decide, by decide⟩ ⟨by omega, by omega⟩ (by omega) hRK10m91) (fun v95 m94 hqm94 => ?_))
                obtain ⟨hIm94, hfm94, hlm94, hvm94⟩ := hqm94
                have hFm94 := zfr_tr hFm91 hfm94 rfl
                have hLm94 := zlow_go hLm91 hlm94
                obtain ⟨hRK10m94, hvm94⟩ := hvm94
                have g96 := zop_fr (zdis_fr hfm94 rfl)
                have g97 := zop_bd hIm94 hc0
                refine zw_b (by omega) ?_
                generalize hmm98 : zu_up m94 a0 6 0 = m98
                have hIm98 := zi_up hmm98 hIm94 hc0 zb_10_6 (by omega) (by omega)
                have hFm98 := zfr_up hmm98 hFm94 hc0 rfl
                have hLm98 := zlow_ne hmm98 hLm94 hc0 (by decide) (by decide) (by decide)
                have g99 := zop_fr (zdis_fr (zfr_up hmm98 (zfr_rf [(10, 7)] _) hc0 rfl) rfl)
                have hRK10m98 := zR_K10_fr (zdis_fr (zfr_up hmm98 (zfr_rf [(10, 7)] _) hc0 rfl) rfl) hRK10m94
                refine zw_some ?_
                have r100 : 0 ≤ (m98 a0 4) ∧ (m98 a0 4) ≤ 8 := zi_rd hIm98 hc0 zb_10_4
                have e101 : (m98 a0 4) = (m0 a0 4) := (Eq.trans (zs_ne hmm98 (Or.inr (by decide))) (Eq.trans (zfr_ap hfm94 hc0 rfl) (zs_ne hmm91 (Or.inl (zc_ne hc0 zq_10 (by decide))))))
                exact zw_some ⟨hIm98, hFm98, hLm98, hRK10m98, ⟨by decide, by decide⟩, fun _ => by omega⟩
              · exfalso; omega
            · refine zw_b (by omega) ?_
              refine zw_some ?_
              refine zw_ite (fun h102 => ?_) (fun h102 => ?_)
              · exfalso; omega
              · refine zw_some ?_
                exact zw_some ⟨hIm0, hFm0, hLm0, hRK10m0, ⟨by decide, by decide⟩, fun h => absurd h (by decide)⟩
  · have r103 : (-2147483648) ≤ (m0 45 5) ∧ (m0 45 5) ≤ 2147483647 := zi_rd hIm0 zq_45 zb_9_5
    refine zw_ite (fun h104 => ?_) (fun h104 => ?_)
    · refine zw_bd (zw_eq (zu_call_at (zt_T n) (zm_200 n) (zdp_200 n) _ _ _ _ _ rfl (zr_200_0 n _ _ a0 16 (m0 45 5) m0)) ?_)
      refine zw_bd (zw_eq (zu_call_at (zt_T n) (zm_204 n) (zdp_204 n) _ _ _ _ _ rfl (zr_204_0 n _ _ a0 m0)) ?_)
      have r105 : 0 ≤ (m0 10 5) ∧ (m0 10 5) ≤ 64 := zi_rd hIm0 zq_10 zb_5_5
      refine zw_ite (fun h106 => ?_) (fun h106 => ?_)
      · have w107 := zu_w32_id (z := (m0 10 5) + 1) (by omega) (by omega)
        generalize hmm108 : zu_up m0 10 5 (zu_w32 ((m0 10 5) + 1)) = m108
        have hIm108 := zi_up hmm108 hIm0 zq_10 zb_5_5 (by omega) (by omega)
        have hFm108 := zfr_up hmm108 hFm0 zq_10 rfl
        have hLm108 := zlow_i hmm108 hLm0 (by decide)
        have g109 := zop_fr (zdis_fr (zfr_up hmm108 (zfr_rf [(5, 6)] _) zq_10 rfl) rfl)
        have hRK10m108 := zR_K10_fr (zdis_fr (zfr_up hmm108 (zfr_rf [(5, 6)] _) zq_10 rfl) rfl) hRK10m0
        refine zw_b (by omega) ?_
        refine zw_some ?_
        refine zw_ite (fun h110 => ?_) (fun h110 => ?_)
        · refine zw_bd (zw_mono (zk_207k n hIm108 zq_10 ⟨by decide, by decide⟩ ⟨by omega, by omega⟩ (by omega) hRK10m108) (fun v112 m111 hqm111 => ?_))
          obtain ⟨hIm111, hfm111, hlm111, hvm111⟩ := hqm111
          have hFm111 := zfr_tr hFm108 hfm111 rfl
          have hLm111 := zlow_go hLm108 hlm111
          obtain ⟨hRK10m111, hvm111⟩ := hvm111
          have g113 := zop_fr (zdis_fr hfm111 rfl)
          have g114 := zop_bd hIm111 hc0
          refine zw_b (by omega) ?_
          generalize hmm115 : zu_up m111 a0 6 0 = m115
          have hIm115 := zi_up hmm115 hIm111 hc0 zb_10_6 (by omega) (by omega)
          have hFm115 := zfr_up hmm115 hFm111 hc0 rfl
          have hLm115 := zlow_ne hmm115 hLm111 hc0 (by decide) (by decide) (by decide)
          have g116 := zop_fr (zdis_fr (zfr_up hmm115 (zfr_rf [(10, 7)] _) hc0 rfl) rfl)
          have hRK10m115 := zR_K10_fr (zdis_fr (zfr_up hmm115 (zfr_rf [(10, 7)] _) hc0 rfl) rfl) hRK10m111
          refine zw_some ?_
          have r117 : 0 ≤ (m115 a0 4) ∧ (m115 a0 4) ≤ 8 := zi_rd hIm115 hc0 zb_10_4
          have e118 : (m115 a0 4) = (m0 a0 4) := (Eq.trans (zs_ne hmm115 (Or.inr (by decide))) (Eq.trans (zfr_ap hfm111 hc0 rfl) (zs_ne hmm108 (Or.inl (zc_ne hc0 zq_10 (by decide))))))
          exact zw_some ⟨hIm115, hFm115, hLm115, hRK10m115, ⟨by decide, by decide⟩, fun _ => by omega⟩
        · exfalso; omega
      · refine zw_b (by omega) ?_
        refine zw_some ?_
        refine zw_ite (fun h119 => ?_) (fun h119 => ?_)
        · exfalso; omega
        · refine zw_some ?_
          exact zw_some ⟨hIm0, hFm0, hLm0, hRK10m0, ⟨by decide, by decide⟩, fun h => absurd h (by decide)⟩
    · exact zw_some ⟨hIm0, hFm0, hLm0, hRK10m0, ⟨by decide, by decide⟩, fun h => absurd h (by decide)⟩
set_option maxHeartbeats 4000000 in
theorem zl_202k (n : Nat) {a0 : Int} {m0 : zu_m} (hc0 : zcls a0 = 10)  (hxp0 : (m0 a0 4) ≤ zop m0) : ∀ k : Nat, (∀ (x1 y0 : Int) (mh : zu_m), zi_I mh → zfr [(5, 6), (5, 7), (10, 4), (10, 5), (10, 7), (10, 8), (33, 0), (34, 0), (47, 0), (48, 0)] m0 mh → zlow m0 mh → ((-1) ≤ x1 ∧ x1 ≤ 14) → (0 ≤ y0 ∧ y0 ≤ 1) → (0 ≤ mh a0 6 ∧ mh a0 6 ≤ 0) → ((mh a0 4) ≤ zop mh) → (x1 = -1 ∨ 3 ≤ x1) → (zR_BN mh) → (zR_K10 mh) → (zR_TV mh) → 2 < (k : Int) → zw (zu_ex (zt_T n) 202 67 [(24, a0), (0, x1), (2, 0), (2, 0)] [(0, y0)] mh) (fun v m => zi_I m ∧ zfr [(5, 6), (5, 7), (10, 4), (10, 5), (10, 7), (10, 8), (33, 0), (34, 0), (47, 0), (48, 0)] m0 m ∧ zlow m0 m ∧ zR_BN m ∧ zR_K10 m ∧ zR_TV m ∧ (0 ≤ v ∧ v ≤ 2) ∧ (v = 0 → (m a0 4) ≤ zop m))) ∧ (∀ (x1 x2 y0 : Int) (mh : zu_m), zi_I mh → zfr [(5, 6), (5, 7), (10, 4), (10, 5), (10, 7), (10, 8), (33, 0), (34, 0), (47, 0), (48, 0)] m0 mh → zlow m0 mh → (0 ≤ x1 ∧ x1 ≤ 14) → (0 ≤ x2 ∧ x2 ≤ 1) → (0 ≤ y0 ∧ y0 ≤ 1) → (1 ≤ mh 10 5 ∧ mh 10 5 ≤ 64) → (0 ≤ mh a0 6 ∧ mh a0 6 ≤ 0) → ((mh a0 4) ≤ zop mh) → (3 ≤ x1) → (zR_BN mh) → (zR_K10 mh) → (zR_TV mh) → 1 < (k : Int) → zw (zu_ex (zt_T n) 202 117 [(24, a0), (0, x1), (0, x2), (2, 0)] [(0, y0)] mh) (fun v m => zi_I m ∧ zfr [(5, 6), (5, 7), (10, 4), (10, 5), (10, 7), (10, 8), (33, 0), (34, 0), (47, 0), (48, 0)] m0 m ∧ zlow m0 m ∧ zR_BN m ∧ zR_K10 m ∧ zR_TV m ∧ (0 ≤ v ∧ v ≤ 2) ∧ (v = 0 → (m a0 4) ≤ zop m))) ∧ (∀ (x1 x2 x3 y0 y1 y2 : Int) (mh : zu_m), zi_I mh → zfr [(5, 6), (5, 7), (10, 4), (10, 5), (10, 7), (10, 8), (33, 0), (34, 0), (47, 0), (48, 0)] m0 mh → zlow m0 mh → (0 ≤ x1 ∧ x1 ≤ 14) → (0 ≤ x2 ∧ x2 ≤ 1) → (0 ≤ x3 ∧ x3 ≤ 1) → (0 ≤ y0 ∧ y0 ≤ 1) → (0 ≤ y1 ∧ y1 ≤ 8) → (zcls y2 = 48) → (1 ≤ mh 10 5 ∧ mh 10 5 ≤ 64) → (0 ≤ mh a0 6 ∧ mh a0 6 ≤ 0) → ((mh a0 4) ≤ zop mh) → (3 ≤ x1) → (zR_BN mh) → (zR_K10 mh) → (zR_TV mh) → 0 < (k : Int) → zw (zu_ex (zt_T n) 202 151 [(24, a0), (0, x1), (0, x2), (0, x3)] [(0, y0), (0, y1), (26, y2)] mh) (fun v m => zi_I m ∧ zfr [(5, 6), (5, 7), (10, 4), (10, 5), (10, 7), (10, 8), (33, 0), (34, 0), (47, 0), (48, 0)] m0 m ∧ zlow m0 m ∧ zR_BN m ∧ zR_K10 m ∧ zR_TV m ∧ (0 ≤ v ∧ v ≤ 2) ∧ (v = 0 → (m a0 4) ≤ zop m))) := by
  intro k
  induction k with
  | zero => exact ⟨fun x1 y0 mh hImh hFmh hLmh hbx1 hby0 hg2 hH0 hH1 hRBNmh hRK10mh hRTVmh hM => by exfalso; omega, fun x1 x2 y0 mh hImh hFmh hLmh hbx1 hbx2 hby0 hg3 hg4 hH0 hH1 hRBNmh hRK10mh hRTVmh hM => by exfalso; omega, fun x1 x2 x3 y0 y1 y2 mh hImh hFmh hLmh hbx1 hbx2 hbx3 hby0 hby1 hy2 hg6 hg7 hH0 hH1 hRBNmh hRK10mh hRTVmh hM => by exfalso; omega⟩
  | succ k ih =>
    refine ⟨?_, ?_, ?_⟩
    · intro x1 y0 mh hImh hFmh hLmh hbx1 hby0 hg2 hH0 hH1 hRBNmh hRK10mh hRTVmh hM
      refine zw_eq (zu_rega_at (zt_T n) (zm_202 n) (zdp_202 n) _ _ _ _ _ _ (zr_202_67 n _ _ a0 x1 y0 mh)) ?_
      have r1 : 0 ≤ (mh a0 4) ∧ (mh a0 4) ≤ 8 := zi_rd hImh hc0 zb_10_4
      have g2 := zop_bd hImh hc0
      have s3 := hRTVmh 45 zq_45
      refine zw_ite (fun h4 => ?_) (fun h4 => ?_)
      · exact zw_some ⟨hImh, hFmh, hLmh, hRBNmh, hRK10mh, hRTVmh, ⟨by decide, by decide⟩, fun h => absurd h (by decide)⟩
      · refine zw_ite (fun h5 => ?_) (fun h5 => ?_)
        · refine zw_bd (zw_eq (zu_call_at (zt_T n) (zm_204 n) (zdp_204 n) _ _ _ _ _ rfl (zr_204_0 n _ _ a0 mh)) ?_)
          have r6 : 0 ≤ (mh 10 5) ∧ (mh 10 5) ≤ 64 := zi_rd hImh zq_10 zb_5_5
          refine zw_ite (fun h7 => ?_) (fun h7 => ?_)
          · have w8 := zu_w32_id (z := (mh 10 5) + 1) (by omega) (by omega)
            generalize hmm9 : zu_up mh 10 5 (zu_w32 ((mh 10 5) + 1)) = m9
            have hIm9 := zi_up hmm9 hImh zq_10 zb_5_5 (by omega) (by omega)
            have hFm9 := zfr_up hmm9 hFmh zq_10 rfl
            have hLm9 := zlow_i hmm9 hLmh (by decide)
            have g10 := zop_fr (zdis_fr (zfr_up hmm9 (zfr_rf [(5, 6)] _) zq_10 rfl) rfl)
            have hRBNm9 := zR_BN_fr (zdis_fr (zfr_up hmm9 (zfr_rf [(5, 6)] _) zq_10 rfl) rfl) hRBNmh
            have hRK10m9 := zR_K10_fr (zdis_fr (zfr_up hmm9 (zfr_rf [(5, 6)] _) zq_10 rfl) rfl) hRK10mh
            have hRTVm9 := zR_TV_fr (zdis_fr (zfr_up hmm9 (zfr_rf [(5, 6)] _) zq_10 rfl) rfl) hRTVmh
            refine zw_b (by omega) ?_
            refine zw_some ?_
            refine zw_ite (fun h11 => ?_) (fun h11 => ?_)
            · refine zw_ite (fun h12 => ?_) (fun h12 => ?_)
              · have r13 : 0 ≤ (m9 10 5) ∧ (m9 10 5) ≤ 64 := zi_rd hIm9 zq_10 zb_5_5
                have e14 : (m9 10 5) = (zu_w32 ((mh 10 5) + 1)) := (zs_eq hmm9)
                have r15 : 0 ≤ (m9 a0 6) ∧ (m9 a0 6) ≤ 1 := zi_rd hIm9 hc0 zb_10_6
                have e16 : (m9 a0 6) = (mh a0 6) := (zs_ne hmm9 (Or.inl (zc_ne hc0 zq_10 (by decide))))
                have r17 : 0 ≤ (m9 a0 4) ∧ (m9 a0 4) ≤ 8 := zi_rd hIm9 hc0 zb_10_4
                have e18 : (m9 a0 4) = (mh a0 4) := (zs_ne hmm9 (Or.inl (zc_ne hc0 zq_10 (by decide))))
                have hM : 1 < (k : Int) := by omega
                exact ih.2.1 x1 y0 1 m9 hIm9 hFm9 hLm9 ⟨by omega, by omega⟩ ⟨by omega, by omega⟩ ⟨by omega, by omega⟩ ⟨by omega, by omega⟩ ⟨by omega, by omega⟩ (by omega) (by omega) hRBNm9 hRK10m9 hRTVm9 hM
              · refine zw_ite (fun h19 => ?_) (fun h19 => ?_)
                · have r20 : 0 ≤ (m9 10 5) ∧ (m9 10 5) ≤ 64 := zi_rd hIm9 zq_10 zb_5_5
                  have e21 : (m9 10 5) = (zu_w32 ((mh 10 5) + 1)) := (zs_eq hmm9)
                  have r22 : 0 ≤ (m9 a0 6) ∧ (m9 a0 6) ≤ 1 := zi_rd hIm9 hc0 zb_10_6
                  have e23 : (m9 a0 6) = (mh a0 6) := (zs_ne hmm9 (Or.inl (zc_ne hc0 zq_10 (by decide))))
                  have r24 : 0 ≤ (m9 a0 4) ∧ (m9 a0 4) ≤ 8 := zi_rd hIm9 hc0 zb_10_4
                  have e25 : (m9 a0 4) = (mh a0 4) := (zs_ne hmm9 (Or.inl (zc_ne hc0 zq_10 (by decide))))
                  have hM : 1 < (k : Int) := by omega
                  exact ih.2.1 x1 y0 0 m9 hIm9 hFm9 hLm9 ⟨by omega, by omega⟩ ⟨by omega, by omega⟩ ⟨by omega, by omega⟩ ⟨by omega, by omega⟩ ⟨by omega, by omega⟩ (by omega) (by omega) hRBNm9 hRK10m9 hRTVm9 hM
                · have r26 : 0 ≤ (m9 10 5) ∧ (m9 10 5) ≤ 64 := zi_rd hIm9 zq_10 zb_5_5
                  have e27 : (m9 10 5) = (zu_w32 ((mh 10 5) + 1)) := (zs_eq hmm9)
                  have r28 : 0 ≤ (m9 a0 6) ∧ (m9 a0 6) ≤ 1 := zi_rd hIm9 hc0 zb_10_6
                  have e29 : (m9 a0 6) = (mh a0 6) := (zs_ne hmm9 (Or.inl (zc_ne hc0 zq_10 (by decide))))
                  have r30 : 0 ≤ (m9 a0 4) ∧ (m9 a0 4) ≤ 8 := zi_rd hIm9 hc0 zb_10_4
                  have e31 : (m9 a0 4) = (mh a0 4) := (zs_ne hmm9 (Or.inl (zc_ne hc0 zq_10 (by decide))))
                  have hM : 1 < (k : Int) := by omega
                  exact ih.2.1 x1 y0 1 m9 hIm9 hFm9 hLm9 ⟨by omega, by omega⟩ ⟨by omega, by omega⟩ ⟨by omega, by omega⟩ ⟨by omega, by omega⟩ ⟨by omega, by omega⟩ (by omega) (by omega) hRBNm9 hRK10m9 hRTVm9 hM
            · exfalso; omega
          · refine zw_b (by omega) ?_
            refine zw_some ?_
            refine zw_ite (fun h32 => ?_) (fun h32 => ?_)
            · exfalso; omega
            · exact zw_some ⟨hImh, hFmh, hLmh, hRBNmh, hRK10mh, hRTVmh, ⟨by decide, by decide⟩, fun h => absurd h (by decide)⟩
        · have b33 : 0 ≤ (mh a0 4) ∧ (mh a0 4) < 9 := by omega
          refine zw_if b33 ?_
          have r34 : 0 ≤ (mh 49 (mh a0 4)) ∧ (mh 49 (mh a0 4)) ≤ 1 := zi_rd hImh zq_49 (zb_48 _)
          refine zw_ite (fun h35 => ?_) (fun h35 => ?_)
          · refine zw_bd (zw_eq (zu_call_at (zt_T n) (zm_204 n) (zdp_204 n) _ _ _ _ _ rfl (zr_204_0 n _ _ a0 mh)) ?_)
            have r36 : 0 ≤ (mh 10 5) ∧ (mh 10 5) ≤ 64 := zi_rd hImh zq_10 zb_5_5
            refine zw_ite (fun h37 => ?_) (fun h37 => ?_)
            · have w38 := zu_w32_id (z := (mh 10 5) + 1) (by omega) (by omega)
              generalize hmm39 : zu_up mh 10 5 (zu_w32 ((mh 10 5) + 1)) = m39
              have hIm39 := zi_up hmm39 hImh zq_10 zb_5_5 (by omega) (by omega)
              have hFm39 := zfr_up hmm39 hFmh zq_10 rfl
              have hLm39 := zlow_i hmm39 hLmh (by decide)
              have g40 := zop_fr (zdis_fr (zfr_up hmm39 (zfr_rf [(5, 6)] _) zq_10 rfl) rfl)
              have hRBNm39 := zR_BN_fr (zdis_fr (zfr_up hmm39 (zfr_rf [(5, 6)] _) zq_10 rfl) rfl) hRBNmh
              have hRK10m39 := zR_K10_fr (zdis_fr (zfr_up hmm39 (zfr_rf [(5, 6)] _) zq_10 rfl) rfl) hRK10mh
              have hRTVm39 := zR_TV_fr (zdis_fr (zfr_up hmm39 (zfr_rf [(5, 6)] _) zq_10 rfl) rfl) hRTVmh
              refine zw_b (by omega) ?_
              refine zw_some ?_
              refine zw_ite (fun h41 => ?_) (fun h41 => ?_)
              · refine zw_ite (fun h42 => ?_) (fun h42 => ?_)
                · have r43 : 0 ≤ (m39 10 5) ∧ (m39 10 5) ≤ 64 := zi_rd hIm39 zq_10 zb_5_5
                  have e44 : (m39 10 5) = (zu_w32 ((mh 10 5) + 1)) := (zs_eq hmm39)
                  have r45 : 0 ≤ (m39 a0 6) ∧ (m39 a0 6) ≤ 1 := zi_rd hIm39 hc0 zb_10_6
                  have e46 : (m39 a0 6) = (mh a0 6) := (zs_ne hmm39 (Or.inl (zc_ne hc0 zq_10 (by decide))))
                  have r47 : 0 ≤ (m39 a0 4) ∧ (m39 a0 4) ≤ 8 := zi_rd hIm39 hc0 zb_10_4
                  have e48 : (m39 a0 4) = (mh a0 4) := (zs_ne hmm39 (Or.inl (zc_ne hc0 zq_10 (by decide))))
                  have hM : 1 < (k : Int) := by omega
                  exact ih.2.1 x1 y0 1 m39 hIm39 hFm39 hLm39 ⟨by omega, by omega⟩ ⟨by omega, by omega⟩ ⟨by omega, by omega⟩ ⟨by omega, by omega⟩ ⟨by omega, by omega⟩ (by omega) (by omega) hRBNm39 hRK10m39 hRTVm39 hM
                · refine zw_ite (fun h49 => ?_) (fun h49 => ?_)
                  · have r50 : 0 ≤ (m39 10 5) ∧ (m39 10 5) ≤ 64 := zi_rd hIm39 zq_10 zb_5_5
                    have e51 : (m39 10 5) = (zu_w32 ((mh 10 5) + 1)) := (zs_eq hmm39)
                    have r52 : 0 ≤ (m39 a0 6) ∧ (m39 a0 6) ≤ 1 := zi_rd hIm39 hc0 zb_10_6
                    have e53 : (m39 a0 6) = (mh a0 6) := (zs_ne hmm39 (Or.inl (zc_ne hc0 zq_10 (by decide))))
                    have r54 : 0 ≤ (m39 a0 4) ∧ (m39 a0 4) ≤ 8 := zi_rd hIm39 hc0 zb_10_4
                    have e55 : (m39 a0 4) = (mh a0 4) := (zs_ne hmm39 (Or.inl (zc_ne hc0 zq_10 (by decide))))
                    have hM : 1 < (k : Int) := by omega
                    exact ih.2.1 x1 y0 0 m39 hIm39 hFm39 hLm39 ⟨by omega, by omega⟩ ⟨by omega, by omega⟩ ⟨by omega, by omega⟩ ⟨by omega, by omega⟩ ⟨by omega, by omega⟩ (by omega) (by omega) hRBNm39 hRK10m39 hRTVm39 hM
                  · have r56 : 0 ≤ (m39 10 5) ∧ (m39 10 5) ≤ 64 := zi_rd hIm39 zq_10 zb_5_5
                    have e57 : (m39 10 5) = (zu_w32 ((mh 10 5) + 1)) := (zs_eq hmm39)
                    have r58 : 0 ≤ (m39 a0 6) ∧ (m39 a0 6) ≤ 1 := zi_rd hIm39 hc0 zb_10_6
                    have e59 : (m39 a0 6) = (mh a0 6) := (zs_ne hmm39 (Or.inl (zc_ne hc0 zq_10 (by decide))))
                    have r60 : 0 ≤ (m39 a0 4) ∧ (m39 a0 4) ≤ 8 := zi_rd hIm39 hc0 zb_10_4
                    have e61 : (m39 a0 4) = (mh a0 4) := (zs_ne hmm39 (Or.inl (zc_ne hc0 zq_10 (by decide))))
                    have hM : 1 < (k : Int) := by omega
                    exact ih.2.1 x1 y0 1 m39 hIm39 hFm39 hLm39 ⟨by omega, by omega⟩ ⟨by omega, by omega⟩ ⟨by omega, by omega⟩ ⟨by omega, by omega⟩ ⟨by omega, by omega⟩ (by omega) (by omega) hRBNm39 hRK10m39 hRTVm39 hM
              · exfalso; omega
            · refine zw_b (by omega) ?_
              refine zw_some ?_
              refine zw_ite (fun h62 => ?_) (fun h62 => ?_)
              · exfalso; omega
              · exact zw_some ⟨hImh, hFmh, hLmh, hRBNmh, hRK10mh, hRTVmh, ⟨by decide, by decide⟩, fun h => absurd h (by decide)⟩
          · exact zw_some ⟨hImh, hFmh, hLmh, hRBNmh, hRK10mh, hRTVmh, ⟨by decide, by decide⟩, fun h => absurd h (by decide)⟩
    · intro x1 x2 y0 mh hImh hFmh hLmh hbx1 hbx2 hby0 hg3 hg4 hH0 hH1 hRBNmh hRK10mh hRTVmh hM
      refine zw_eq (zu_rega_at (zt_T n) (zm_202 n) (zdp_202 n) _ _ _ _ _ _ (zr_202_117 n _ _ a0 x1 x2 y0 mh)) ?_
      have r63 : 0 ≤ (mh a0 4) ∧ (mh a0 4) ≤ 8 := zi_rd hImh hc0 zb_10_4
      have g64 := zop_bd hImh hc0
      have s65 := hRTVmh 45 zq_45
      refine zw_ite (fun h66 => ?_) (fun h66 => ?_)
      · have hM : 0 < (k : Int) := by omega
        exact ih.2.2 x1 x2 y0 1 (mh a0 4) 49 mh hImh hFmh hLmh ⟨by omega, by omega⟩ ⟨by omega, by omega⟩ ⟨by omega, by omega⟩ ⟨by omega, by omega⟩ ⟨by omega, by omega⟩ zq_49 ⟨by omega, by omega⟩ ⟨by omega, by omega⟩ (by omega) (by omega) hRBNmh hRK10mh hRTVmh hM
      · refine zw_ite (fun h67 => ?_) (fun h67 => ?_)
        · have hM : 0 < (k : Int) := by omega
          exact ih.2.2 x1 x2 y0 0 (mh a0 4) 49 mh hImh hFmh hLmh ⟨by omega, by omega⟩ ⟨by omega, by omega⟩ ⟨by omega, by omega⟩ ⟨by omega, by omega⟩ ⟨by omega, by omega⟩ zq_49 ⟨by omega, by omega⟩ ⟨by omega, by omega⟩ (by omega) (by omega) hRBNmh hRK10mh hRTVmh hM
        · have b68 : 0 ≤ (mh a0 4) ∧ (mh a0 4) < 9 := by omega
          refine zw_if b68 ?_
          have r69 : 0 ≤ (mh 49 (mh a0 4)) ∧ (mh 49 (mh a0 4)) ≤ 1 := zi_rd hImh zq_49 (zb_48 _)
          refine zw_ite (fun h70 => ?_) (fun h70 => ?_)
          · have hM : 0 < (k : Int) := by omega
            exact ih.2.2 x1 x2 y0 0 (mh a0 4) 49 mh hImh hFmh hLmh ⟨by omega, by omega⟩ ⟨by omega, by omega⟩ ⟨by omega, by omega⟩ ⟨by omega, by omega⟩ ⟨by omega, by omega⟩ zq_49 ⟨by omega, by omega⟩ ⟨by omega, by omega⟩ (by omega) (by omega) hRBNmh hRK10mh hRTVmh hM
          · have hM : 0 < (k : Int) := by omega
            exact ih.2.2 x1 x2 y0 1 (mh a0 4) 49 mh hImh hFmh hLmh ⟨by omega, by omega⟩ ⟨by omega, by omega⟩ ⟨by omega, by omega⟩ ⟨by omega, by omega⟩ ⟨by omega, by omega⟩ zq_49 ⟨by omega, by omega⟩ ⟨by omega, by omega⟩ (by omega) (by omega) hRBNmh hRK10mh hRTVmh hM
    · intro x1 x2 x3 y0 y1 y2 mh hImh hFmh hLmh hbx1 hbx2 hbx3 hby0 hby1 hy2 hg6 hg7 hH0 hH1 hRBNmh hRK10mh hRTVmh hM
      refine zw_eq (zu_rega_at (zt_T n) (zm_202 n) (zdp_202 n) _ _ _ _ _ _ (zr_202_151 n _ _ a0 x1 x2 x3 y0 y1 y2 mh)) ?_
      have r71 : 0 ≤ (mh a0 4) ∧ (mh a0 4) ≤ 8 := zi_rd hImh hc0 zb_10_4
      have g72 := zop_bd hImh hc0
      have s73 := hRTVmh 45 zq_45
      refine zw_b (by omega) ?_
      have b74 : 0 ≤ y1 ∧ y1 < 9 := by omega
      refine zw_if b74 ?_
      generalize hmm75 : zu_up mh y2 y1 y0 = m75
      have hIm75 := zi_up hmm75 hImh hy2 (zb_48 _) (by omega) (by omega)
      have hFm75 := zfr_up hmm75 hFmh hy2 rfl
      have hLm75 := zlow_ne hmm75 hLmh hy2 (by decide) (by decide) (by decide)
      have g76 := zop_fr (zdis_fr (zfr_up hmm75 (zfr_rf [(48, 0)] _) hy2 rfl) rfl)
      have hRBNm75 := zR_BN_fr (zdis_fr (zfr_up hmm75 (zfr_rf [(48, 0)] _) hy2 rfl) rfl) hRBNmh
      have hRK10m75 := zR_K10_fr (zdis_fr (zfr_up hmm75 (zfr_rf [(48, 0)] _) hy2 rfl) rfl) hRK10mh
      have hRTVm75 := zR_TV_fr (zdis_fr (zfr_up hmm75 (zfr_rf [(48, 0)] _) hy2 rfl) rfl) hRTVmh
      refine zw_b (by omega) ?_
      generalize hmm77 : zu_up m75 a0 6 1 = m77
      have hIm77 := zi_up hmm77 hIm75 hc0 zb_10_6 (by omega) (by omega)
      have hFm77 := zfr_up hmm77 hFm75 hc0 rfl
      have hLm77 := zlow_ne hmm77 hLm75 hc0 (by decide) (by decide) (by decide)
      have g78 := zop_fr (zdis_fr (zfr_up hmm77 (zfr_rf [(10, 7)] _) hc0 rfl) rfl)
      have hRBNm77 := zR_BN_fr (zdis_fr (zfr_up hmm77 (zfr_rf [(10, 7)] _) hc0 rfl) rfl) hRBNm75
      have hRK10m77 := zR_K10_fr (zdis_fr (zfr_up hmm77 (zfr_rf [(10, 7)] _) hc0 rfl) rfl) hRK10m75
      have hRTVm77 := zR_TV_fr (zdis_fr (zfr_up hmm77 (zfr_rf [(10, 7)] _) hc0 rfl) rfl) hRTVm75
      refine zw_b (by omega) ?_
      generalize hmm79 : zu_up m77 a0 7 x3 = m79
      have hIm79 := zi_up hmm79 hIm77 hc0 zb_10_7 (by omega) (by omega)
      have hFm79 := zfr_up hmm79 hFm77 hc0 rfl
      have hLm79 := zlow_ne hmm79 hLm77 hc0 (by decide) (by decide) (by decide)
      have g80 := zop_fr (zdis_fr (zfr_up hmm79 (zfr_rf [(10, 8)] _) hc0 rfl) rfl)
      have hRBNm79 := zR_BN_fr (zdis_fr (zfr_up hmm79 (zfr_rf [(10, 8)] _) hc0 rfl) rfl) hRBNm77
      have hRK10m79 := zR_K10_fr (zdis_fr (zfr_up hmm79 (zfr_rf [(10, 8)] _) hc0 rfl) rfl) hRK10m77
      have hRTVm79 := zR_TV_fr (zdis_fr (zfr_up hmm79 (zfr_rf [(10, 8)] _) hc0 rfl) rfl) hRTVm77
      have r81 : 0 ≤ (m79 2 x1) ∧ (m79 2 x1) ≤ 6 := zi_rd hIm79 zq_2 (zb_1 _)
      have s82 := hRBNm79.2 x1 (by omega) (by omega)
      have b83 : 0 ≤ x1 ∧ x1 < 18 := by omega
      refine zw_if b83 ?_
      refine zw_bd (zw_mono (zk_206k n hIm79 hc0 ⟨by omega, by omega⟩ (by omega) hRBNm79 hRK10m79) (fun v85 m84 hqm84 => ?_))
      obtain ⟨hIm84, hfm84, hlm84, hvm84⟩ := hqm84
      have hFm84 := zfr_tr hFm79 hfm84 rfl
      have hLm84 := zlow_go hLm79 hlm84
      obtain ⟨hRBNm84, hRK10m84, hvm84⟩ := hvm84
      have hRTVm84 := zR_TV_fr (zdis_fr hfm84 rfl) hRTVm79
      have g86 := zop_bd hIm84 hc0
      have s87 := hRTVm84 45 zq_45
      refine zw_bd (zw_eq (zu_call_at (zt_T n) (zm_205 n) (zdp_205 n) _ _ _ _ _ rfl (zr_205_0 n _ _ a0 x1 m84)) ?_)
      have r88 : 0 ≤ (m84 a0 3) ∧ (m84 a0 3) ≤ 72 := zi_rd hIm84 hc0 zb_10_3
      refine zw_ite (fun h89 => ?_) (fun h89 => ?_)
      · have b90 : 0 ≤ (m84 a0 3) ∧ (m84 a0 3) < 72 := by omega
        refine zw_if b90 ?_
        generalize hmm91 : zu_up m84 48 (m84 a0 3) x1 = m91
        have hIm91 := zi_up hmm91 hIm84 zq_48 (zb_47 _) (by omega) (by omega)
        have hFm91 := zfr_up hmm91 hFm84 zq_48 rfl
        have hLm91 := zlow_ne hmm91 hLm84 zq_48 (by decide) (by decide) (by decide)
        have hRBNm91 := zR_BN_fr (zdis_fr (zfr_up hmm91 (zfr_rf [(47, 0)] _) zq_48 rfl) rfl) hRBNm84
        have hRK10m91 := zR_K10_fr (zdis_fr (zfr_up hmm91 (zfr_rf [(47, 0)] _) zq_48 rfl) rfl) hRK10m84
        have hRTVm91 := zR_TV_fr (zdis_fr (zfr_up hmm91 (zfr_rf [(47, 0)] _) zq_48 rfl) rfl) hRTVm84
        have r92 : 0 ≤ (m91 a0 3) ∧ (m91 a0 3) ≤ 72 := zi_rd hIm91 hc0 zb_10_3
        have e93 : (m91 a0 3) = (m84 a0 3) := (zs_ne hmm91 (Or.inl (zc_ne hc0 zq_48 (by decide))))
        have w94 := zu_w32_id (z := (m91 a0 3) + 1) (by omega) (by omega)
        generalize hmm95 : zu_up m91 a0 3 (zu_w32 ((m91 a0 3) + 1)) = m95
        have hIm95 := zi_up hmm95 hIm91 hc0 zb_10_3 (by omega) (by omega)
        have hFm95 := zfr_up hmm95 hFm91 hc0 rfl
        have hLm95 := zlow_ne hmm95 hLm91 hc0 (by decide) (by decide) (by decide)
        have hRBNm95 := zR_BN_fr (zdis_fr (zfr_up hmm95 (zfr_rf [(10, 4)] _) hc0 rfl) rfl) hRBNm91
        have hRK10m95 := zR_K10_fr (zdis_fr (zfr_up hmm95 (zfr_rf [(10, 4)] _) hc0 rfl) rfl) hRK10m91
        have hRTVm95 := zR_TV_fr (zdis_fr (zfr_up hmm95 (zfr_rf [(10, 4)] _) hc0 rfl) rfl) hRTVm91
        have g96 := zop_push hmm91 hmm95 hc0 (by omega) (by omega) (by omega)
        have g97 := zop_bd hIm95 hc0
        refine zw_some ?_
        have r98 : 0 ≤ (m95 a0 4) ∧ (m95 a0 4) ≤ 8 := zi_rd hIm95 hc0 zb_10_4
        have e99 : (m95 a0 4) = (mh a0 4) := (Eq.trans (zs_ne hmm95 (Or.inr (by decide))) (Eq.trans (zs_ne hmm91 (Or.inl (zc_ne hc0 zq_48 (by decide)))) (Eq.trans (zfr_ap hfm84 hc0 rfl) (Eq.trans (zs_ne hmm79 (Or.inr (by decide))) (Eq.trans (zs_ne hmm77 (Or.inr (by decide))) (zs_ne hmm75 (Or.inl (zc_ne hc0 hy2 (by decide)))))))))
        exact zw_some ⟨hIm95, hFm95, hLm95, hRBNm95, hRK10m95, hRTVm95, ⟨by decide, by decide⟩, fun _ => by omega⟩
      · refine zw_some ?_
        have r100 : 0 ≤ (m84 a0 4) ∧ (m84 a0 4) ≤ 8 := zi_rd hIm84 hc0 zb_10_4
        have e101 : (m84 a0 4) = (mh a0 4) := (Eq.trans (zfr_ap hfm84 hc0 rfl) (Eq.trans (zs_ne hmm79 (Or.inr (by decide))) (Eq.trans (zs_ne hmm77 (Or.inr (by decide))) (zs_ne hmm75 (Or.inl (zc_ne hc0 hy2 (by decide)))))))
        exact zw_some ⟨hIm84, hFm84, hLm84, hRBNm84, hRK10m84, hRTVm84, ⟨by decide, by decide⟩, fun h => absurd h (by decide)⟩
set_option maxHeartbeats 4000000 in
theorem zk_202k (n : Nat) {a0 : Int} {m0 : zu_m} (hIm0 : zi_I m0) (hc0 : zcls a0 = 10)   (he0 : 0 ≤ m0 a0 6 ∧ m0 a0 6 ≤ 0) (hxp0 : (m0 a0 4) ≤ zop m0) (hRBNm0 : zR_BN m0) (hRK10m0 : zR_K10 m0) (hRTVm0 : zR_TV m0) : zw (zu_call (zt_T n) 202 [(24, a0)] m0) (fun v m => zi_I m ∧ zfr [(5, 6), (5, 7), (10, 4), (10, 5), (10, 7), (10, 8), (33, 0), (34, 0), (47, 0), (48, 0)] m0 m ∧ zlow m0 m ∧ zR_BN m ∧ zR_K10 m ∧ zR_TV m ∧ (0 ≤ v ∧ v ≤ 2) ∧ (v = 0 → (m a0 4) ≤ zop m)) := by
  have hFm0 : zfr [(5, 6), (5, 7), (10, 4), (10, 5), (10, 7), (10, 8), (33, 0), (34, 0), (47, 0), (48, 0)] m0 m0 := zfr_rf _ _
  have hLm0 : zlow m0 m0 := zlow_rf m0
  have r102 : 0 ≤ (m0 a0 4) ∧ (m0 a0 4) ≤ 8 := zi_rd hIm0 hc0 zb_10_4
  have g103 := zop_bd hIm0 hc0
  have s104 := hRTVm0 45 zq_45
  refine zw_eq (zu_call_at (zt_T n) (zm_202 n) (zdp_202 n) _ _ _ _ _ rfl (zr_202_0 n _ _ a0 m0)) ?_
  refine zw_bd (zw_eq (zu_call_at (zt_T n) (zm_278 n) (zdp_278 n) _ _ _ _ _ rfl (zr_278_0 n _ _ 45 2 m0)) ?_)
  have r105 : 0 ≤ (m0 45 4) ∧ (m0 45 4) ≤ 5 := zi_rd hIm0 zq_45 zb_9_4
  refine zw_ite (fun h106 => ?_) (fun h106 => ?_)
  · refine zw_b (by omega) ?_
    refine zw_some ?_
    refine zw_ite (fun h107 => ?_) (fun h107 => ?_)
    · refine zw_bd (zw_eq (zu_call_at (zt_T n) (zm_203 n) (zdp_203 n) _ _ _ _ _ rfl (zr_203_0 n _ _ a0 m0)) ?_)
      refine zw_bd (zw_eq (zu_call_at (zt_T n) (zm_279 n) (zdp_279 n) _ _ _ _ _ rfl (zr_279_0 n _ _ 45 23 1 m0)) ?_)
      refine zw_ite (fun h108 => ?_) (fun h108 => ?_)
      · refine zw_b (by omega) ?_
        refine zw_some ?_
        refine zw_ite (fun h109 => ?_) (fun h109 => ?_)
        · refine zw_bd (zw_eq (zu_call_at (zt_T n) (zm_279 n) (zdp_279 n) _ _ _ _ _ rfl (zr_279_0 n _ _ 45 24 1 m0)) ?_)
          refine zw_ite (fun h110 => ?_) (fun h110 => ?_)
          · refine zw_b (by omega) ?_
            refine zw_some ?_
            refine zw_ite (fun h111 => ?_) (fun h111 => ?_)
            · refine zw_ite (fun h112 => ?_) (fun h112 => ?_)
              · refine zw_some ?_
                refine zw_ite (fun h113 => ?_) (fun h113 => ?_)
                · have hM : 2 < ((3 : Nat) : Int) := by omega
                  exact (zl_202k n (m0 := m0) hc0 hxp0 3).1 (-1) 0 m0 hIm0 hFm0 hLm0 ⟨by omega, by omega⟩ ⟨by omega, by omega⟩ ⟨by omega, by omega⟩ (by omega) (by omega) hRBNm0 hRK10m0 hRTVm0 hM
                · exfalso; omega
              · exfalso; omega
            · exfalso; omega
          · exfalso; omega
        · exfalso; omega
      · have r114 : (-2147483648) ≤ (m0 45 5) ∧ (m0 45 5) ≤ 2147483647 := zi_rd hIm0 zq_45 zb_9_5
        refine zw_ite (fun h115 => ?_) (fun h115 => ?_)
        · refine zw_b (by omega) ?_
          refine zw_some ?_
          refine zw_ite (fun h116 => ?_) (fun h116 => ?_)
          · refine zw_bd (zw_eq (zu_call_at (zt_T n) (zm_279 n) (zdp_279 n) _ _ _ _ _ rfl (zr_279_0 n _ _ 45 24 1 m0)) ?_)
            refine zw_ite (fun h117 => ?_) (fun h117 => ?_)
            · exfalso; omega
            · refine zw_ite (fun h118 => ?_) (fun h118 => ?_)
              · refine zw_b (by omega) ?_
                refine zw_some ?_
                refine zw_ite (fun h119 => ?_) (fun h119 => ?_)
                · refine zw_ite (fun h120 => ?_) (fun h120 => ?_)
                  · refine zw_some ?_
                    refine zw_ite (fun h121 => ?_) (fun h121 => ?_)
                    · have hM : 2 < ((3 : Nat) : Int) := by omega
                      exact (zl_202k n (m0 := m0) hc0 hxp0 3).1 (-1) 0 m0 hIm0 hFm0 hLm0 ⟨by omega, by omega⟩ ⟨by omega, by omega⟩ ⟨by omega, by omega⟩ (by omega) (by omega) hRBNm0 hRK10m0 hRTVm0 hM
                    · exfalso; omega
                  · exfalso; omega
                · exfalso; omega
              · exfalso; omega
          · exfalso; omega
        · have w122 := zu_w32_id (z := 23 + 1) (by omega) (by omega)
          refine zw_ite (fun h123 => ?_) (fun h123 => ?_)
          · refine zw_b (by omega) ?_
            refine zw_some ?_
            refine zw_ite (fun h124 => ?_) (fun h124 => ?_)
            · refine zw_bd (zw_eq (zu_call_at (zt_T n) (zm_279 n) (zdp_279 n) _ _ _ _ _ rfl (zr_279_0 n _ _ 45 24 1 m0)) ?_)
              refine zw_ite (fun h125 => ?_) (fun h125 => ?_)
              · exfalso; omega
              · refine zw_ite (fun h126 => ?_) (fun h126 => ?_)
                · exfalso; omega
                · have w127 := zu_w32_id (z := 24 + 1) (by omega) (by omega)
                  refine zw_ite (fun h128 => ?_) (fun h128 => ?_)
                  · refine zw_b (by omega) ?_
                    refine zw_some ?_
                    refine zw_ite (fun h129 => ?_) (fun h129 => ?_)
                    · refine zw_ite (fun h130 => ?_) (fun h130 => ?_)
                      · refine zw_some ?_
                        refine zw_ite (fun h131 => ?_) (fun h131 => ?_)
                        · have hM : 2 < ((3 : Nat) : Int) := by omega
                          exact (zl_202k n (m0 := m0) hc0 hxp0 3).1 (-1) 0 m0 hIm0 hFm0 hLm0 ⟨by omega, by omega⟩ ⟨by omega, by omega⟩ ⟨by omega, by omega⟩ (by omega) (by omega) hRBNm0 hRK10m0 hRTVm0 hM
                        · exfalso; omega
                      · exfalso; omega
                    · exfalso; omega
                  · refine zw_b (by omega) ?_
                    refine zw_some ?_
                    refine zw_ite (fun h132 => ?_) (fun h132 => ?_)
                    · exfalso; omega
                    · refine zw_some ?_
                      refine zw_ite (fun h133 => ?_) (fun h133 => ?_)
                      · exfalso; omega
                      · refine zw_ite (fun h134 => ?_) (fun h134 => ?_)
                        · have hM : 2 < ((3 : Nat) : Int) := by omega
                          exact (zl_202k n (m0 := m0) hc0 hxp0 3).1 14 0 m0 hIm0 hFm0 hLm0 ⟨by omega, by omega⟩ ⟨by omega, by omega⟩ ⟨by omega, by omega⟩ (by omega) (by omega) hRBNm0 hRK10m0 hRTVm0 hM
                        · exfalso; omega
            · exfalso; omega
          · refine zw_b (by omega) ?_
            refine zw_some ?_
            refine zw_ite (fun h135 => ?_) (fun h135 => ?_)
            · exfalso; omega
            · refine zw_some ?_
              refine zw_ite (fun h136 => ?_) (fun h136 => ?_)
              · exfalso; omega
              · refine zw_ite (fun h137 => ?_) (fun h137 => ?_)
                · have hM : 2 < ((3 : Nat) : Int) := by omega
                  exact (zl_202k n (m0 := m0) hc0 hxp0 3).1 13 0 m0 hIm0 hFm0 hLm0 ⟨by omega, by omega⟩ ⟨by omega, by omega⟩ ⟨by omega, by omega⟩ (by omega) (by omega) hRBNm0 hRK10m0 hRTVm0 hM
                · exfalso; omega
    · exfalso; omega
  · refine zw_ite (fun h138 => ?_) (fun h138 => ?_)
    · refine zw_b (by omega) ?_
      refine zw_some ?_
      refine zw_ite (fun h139 => ?_) (fun h139 => ?_)
      · refine zw_bd (zw_eq (zu_call_at (zt_T n) (zm_203 n) (zdp_203 n) _ _ _ _ _ rfl (zr_203_0 n _ _ a0 m0)) ?_)
        refine zw_bd (zw_eq (zu_call_at (zt_T n) (zm_279 n) (zdp_279 n) _ _ _ _ _ rfl (zr_279_0 n _ _ 45 23 1 m0)) ?_)
        refine zw_ite (fun h140 => ?_) (fun h140 => ?_)
        · refine zw_b (by omega) ?_
          refine zw_some ?_
          refine zw_ite (fun h141 => ?_) (fun h141 => ?_)
          · refine zw_bd (zw_eq (zu_call_at (zt_T n) (zm_279 n) (zdp_279 n) _ _ _ _ _ rfl (zr_279_0 n _ _ 45 24 1 m0)) ?_)
            refine zw_ite (fun h142 => ?_) (fun h142 => ?_)
            · refine zw_b (by omega) ?_
              refine zw_some ?_
              refine zw_ite (fun h143 => ?_) (fun h143 => ?_)
              · refine zw_ite (fun h144 => ?_) (fun h144 => ?_)
                · exfalso; omega
                · refine zw_ite (fun h145 => ?_) (fun h145 => ?_)
                  · refine zw_some ?_
                    refine zw_ite (fun h146 => ?_) (fun h146 => ?_)
                    · have hM : 2 < ((3 : Nat) : Int) := by omega
                      exact (zl_202k n (m0 := m0) hc0 hxp0 3).1 (-1) 0 m0 hIm0 hFm0 hLm0 ⟨by omega, by omega⟩ ⟨by omega, by omega⟩ ⟨by omega, by omega⟩ (by omega) (by omega) hRBNm0 hRK10m0 hRTVm0 hM
                    · exfalso; omega
                  · refine zw_some ?_
                    refine zw_ite (fun h147 => ?_) (fun h147 => ?_)
                    · have hM : 2 < ((3 : Nat) : Int) := by omega
                      exact (zl_202k n (m0 := m0) hc0 hxp0 3).1 (m0 45 5) 0 m0 hIm0 hFm0 hLm0 ⟨by omega, by omega⟩ ⟨by omega, by omega⟩ ⟨by omega, by omega⟩ (by omega) (by omega) hRBNm0 hRK10m0 hRTVm0 hM
                    · refine zw_ite (fun h148 => ?_) (fun h148 => ?_)
                      · exfalso; omega
                      · have hM : 2 < ((3 : Nat) : Int) := by omega
                        exact (zl_202k n (m0 := m0) hc0 hxp0 3).1 (m0 45 5) 1 m0 hIm0 hFm0 hLm0 ⟨by omega, by omega⟩ ⟨by omega, by omega⟩ ⟨by omega, by omega⟩ (by omega) (by omega) hRBNm0 hRK10m0 hRTVm0 hM
              · exfalso; omega
            · exfalso; omega
          · exfalso; omega
        · exfalso; omega
      · exfalso; omega
    · refine zw_b (by omega) ?_
      refine zw_some ?_
      refine zw_ite (fun h149 => ?_) (fun h149 => ?_)
      · exfalso; omega
      · refine zw_ite (fun h150 => ?_) (fun h150 => ?_)
        · refine zw_bd (zw_eq (zu_call_at (zt_T n) (zm_203 n) (zdp_203 n) _ _ _ _ _ rfl (zr_203_0 n _ _ a0 m0)) ?_)
          refine zw_bd (zw_eq (zu_call_at (zt_T n) (zm_279 n) (zdp_279 n) _ _ _ _ _ rfl (zr_279_0 n _ _ 45 23 1 m0)) ?_)
          refine zw_ite (fun h151 => ?_) (fun h151 => ?_)
          · refine zw_b (by omega) ?_
            refine zw_some ?_
            refine zw_ite (fun h152 => ?_) (fun h152 => ?_)
            · refine zw_bd (zw_eq (zu_call_at (zt_T n) (zm_279 n) (zdp_279 n) _ _ _ _ _ rfl (zr_279_0 n _ _ 45 24 1 m0)) ?_)
              refine zw_ite (fun h153 => ?_) (fun h153 => ?_)
              · refine zw_b (by omega) ?_
                refine zw_some ?_
                refine zw_ite (fun h154 => ?_) (fun h154 => ?_)
                · refine zw_ite (fun h155 => ?_) (fun h155 => ?_)
                  · exfalso; omega
                  · refine zw_ite (fun h156 => ?_) (fun h156 => ?_)
                    · refine zw_some ?_
                      refine zw_ite (fun h157 => ?_) (fun h157 => ?_)
                      · have hM : 2 < ((3 : Nat) : Int) := by omega
                        exact (zl_202k n (m0 := m0) hc0 hxp0 3).1 (-1) 0 m0 hIm0 hFm0 hLm0 ⟨by omega, by omega⟩ ⟨by omega, by omega⟩ ⟨by omega, by omega⟩ (by omega) (by omega) hRBNm0 hRK10m0 hRTVm0 hM
                      · exfalso; omega
                    · exfalso; omega
                · exfalso; omega
              · exfalso; omega
            · exfalso; omega
          · exfalso; omega
        · refine zw_bd (zw_mono (zk_206k n hIm0 hc0 ⟨by decide, by decide⟩ (by omega) hRBNm0 hRK10m0) (fun v159 m158 hqm158 => ?_))
          obtain ⟨hIm158, hfm158, hlm158, hvm158⟩ := hqm158
          have hFm158 := zfr_tr hFm0 hfm158 rfl
          have hLm158 := zlow_go hLm0 hlm158
          obtain ⟨hRBNm158, hRK10m158, hvm158⟩ := hvm158
          have hRTVm158 := zR_TV_fr (zdis_fr hfm158 rfl) hRTVm0
          have g160 := zop_bd hIm158 hc0
          have s161 := hRTVm158 45 zq_45
          have r162 : 0 ≤ (m158 a0 3) ∧ (m158 a0 3) ≤ 72 := zi_rd hIm158 hc0 zb_10_3
          have w163 := zu_w32_id (z := (m158 a0 3) - 1) (by omega) (by omega)
          generalize hmm164 : zu_up m158 a0 3 (zu_w32 ((m158 a0 3) - 1)) = m164
          have hIm164 := zi_up hmm164 hIm158 hc0 zb_10_3 (by omega) (by omega)
          have hFm164 := zfr_up hmm164 hFm158 hc0 rfl
          have hLm164 := zlow_ne hmm164 hLm158 hc0 (by decide) (by decide) (by decide)
          have hRBNm164 := zR_BN_fr (zdis_fr (zfr_up hmm164 (zfr_rf [(10, 4)] _) hc0 rfl) rfl) hRBNm158
          have hRK10m164 := zR_K10_fr (zdis_fr (zfr_up hmm164 (zfr_rf [(10, 4)] _) hc0 rfl) rfl) hRK10m158
          have hRTVm164 := zR_TV_fr (zdis_fr (zfr_up hmm164 (zfr_rf [(10, 4)] _) hc0 rfl) rfl) hRTVm158
          have g165 := zop_pop hmm164 hc0 (by omega) (by omega)
          have g166 := zop_bd hIm164 hc0
          have r167 : 0 ≤ (m164 a0 4) ∧ (m164 a0 4) ≤ 8 := zi_rd hIm164 hc0 zb_10_4
          have e168 : (m164 a0 4) = (m0 a0 4) := (Eq.trans (zs_ne hmm164 (Or.inr (by decide))) (zfr_ap hfm158 hc0 rfl))
          have w169 := zu_w32_id (z := (m164 a0 4) - 1) (by omega) (by omega)
          generalize hmm170 : zu_up m164 a0 4 (zu_w32 ((m164 a0 4) - 1)) = m170
          have hIm170 := zi_up hmm170 hIm164 hc0 zb_10_4 (by omega) (by omega)
          have hFm170 := zfr_up hmm170 hFm164 hc0 rfl
          have hLm170 := zlow_ne hmm170 hLm164 hc0 (by decide) (by decide) (by decide)
          have g171 := zop_fr (zdis_fr (zfr_up hmm170 (zfr_rf [(10, 5)] _) hc0 rfl) rfl)
          have hRBNm170 := zR_BN_fr (zdis_fr (zfr_up hmm170 (zfr_rf [(10, 5)] _) hc0 rfl) rfl) hRBNm164
          have hRK10m170 := zR_K10_fr (zdis_fr (zfr_up hmm170 (zfr_rf [(10, 5)] _) hc0 rfl) rfl) hRK10m164
          have hRTVm170 := zR_TV_fr (zdis_fr (zfr_up hmm170 (zfr_rf [(10, 5)] _) hc0 rfl) rfl) hRTVm164
          have r172 : 0 ≤ (m170 a0 4) ∧ (m170 a0 4) ≤ 8 := zi_rd hIm170 hc0 zb_10_4
          have e173 : (m170 a0 4) = (zu_w32 ((m164 a0 4) - 1)) := (zs_eq hmm170)
          exact zw_some ⟨hIm170, hFm170, hLm170, hRBNm170, hRK10m170, hRTVm170, ⟨by decide, by decide⟩, fun _ => by omega⟩
set_option maxHeartbeats 4000000 in
theorem zl_198k (n : Nat) {a0 a1 : Int} {m0 : zu_m} (hc0 : zcls a0 = 10)   : ∀ k : Nat, (∀ (x2 : Int) (mh : zu_m), zi_I mh → zfr [(5, 6), (5, 7), (9, 4), (9, 5), (9, 6), (9, 7), (10, 4), (10, 5), (10, 7), (10, 8), (33, 0), (34, 0), (35, 0), (36, 0), (47, 0), (48, 0)] m0 mh → zlow m0 mh → (0 ≤ a1 ∧ a1 ≤ 3) → (0 ≤ x2 ∧ x2 ≤ 701) → ((mh a0 4) ≤ zop mh) → (zR_BN mh) → (zR_K10 mh) → (701 - x2) * 1 + 0 < (k : Int) → zw (zu_ex (zt_T n) 198 45 [(24, a0), (0, a1), (0, x2), (2, 0)] [] mh) (fun v m => zi_I m ∧ zfr [(5, 6), (5, 7), (9, 4), (9, 5), (9, 6), (9, 7), (10, 4), (10, 5), (10, 7), (10, 8), (33, 0), (34, 0), (35, 0), (36, 0), (47, 0), (48, 0)] m0 m ∧ zlow m0 m ∧ zR_BN m ∧ zR_K10 m ∧ (0 ≤ v ∧ v ≤ 2))) := by
  intro k
  induction k with
  | zero => exact fun x2 mh hImh hFmh hLmh hba1 hbx2 hH0 hRBNmh hRK10mh hM => by exfalso; omega
  | succ k ih =>
    intro x2 mh hImh hFmh hLmh hba1 hbx2 hH0 hRBNmh hRK10mh hM
    refine zw_eq (zu_rega_at (zt_T n) (zm_198 n) (zdp_198 n) _ _ _ _ _ _ (zr_198_45 n _ _ a0 a1 x2 mh)) ?_
    have r1 : 0 ≤ (mh a0 4) ∧ (mh a0 4) ≤ 8 := zi_rd hImh hc0 zb_10_4
    have g2 := zop_bd hImh hc0
    refine zw_ite (fun h3 => ?_) (fun h3 => ?_)
    · exact zw_some ⟨hImh, hFmh, hLmh, hRBNmh, hRK10mh, ⟨by decide, by decide⟩⟩
    · refine zw_bd (zw_mono (zk_18 n hImh zq_45) (fun v5 m4 hqm4 => ?_))
      obtain ⟨hIm4, hfm4, hvm4⟩ := hqm4
      have hFm4 := zfr_tr hFmh hfm4 rfl
      have hLm4 := zlow_go hLmh (zlow_f hfm4 rfl)
      obtain ⟨hRTVm4, hvm4⟩ := hvm4
      have g6 := zop_fr (zdis_fr hfm4 rfl)
      have hRBNm4 := zR_BN_fr (zdis_fr hfm4 rfl) hRBNmh
      have hRK10m4 := zR_K10_fr (zdis_fr hfm4 rfl) hRK10mh
      have g7 := zop_bd hIm4 hc0
      have s8 := hRTVm4 45 zq_45
      have r9 : 0 ≤ (m4 a0 6) ∧ (m4 a0 6) ≤ 1 := zi_rd hIm4 hc0 zb_10_6
      refine zw_ite (fun h10 => ?_) (fun h10 => ?_)
      · refine zw_ite (fun h11 => ?_) (fun h11 => ?_)
        · exfalso; omega
        · have r12 : 0 ≤ (m4 a0 4) ∧ (m4 a0 4) ≤ 8 := zi_rd hIm4 hc0 zb_10_4
          have e13 : (m4 a0 4) = (mh a0 4) := (zfr_ap hfm4 hc0 rfl)
          refine zw_bd (zw_mono (zk_199k n hIm4 hc0 ⟨by omega, by omega⟩ (by omega) hRK10m4) (fun v15 m14 hqm14 => ?_))
          obtain ⟨hIm14, hfm14, hlm14, hvm14⟩ := hqm14
          have hFm14 := zfr_tr hFm4 hfm14 rfl
          have hLm14 := zlow_go hLm4 hlm14
          obtain ⟨hRK10m14, hvm14⟩ := hvm14
          have hRBNm14 := zR_BN_fr (zdis_fr hfm14 rfl) hRBNm4
          have hRTVm14 := zR_TV_fr (zdis_fr hfm14 rfl) hRTVm4
          have g16 := zop_bd hIm14 hc0
          have s17 := hRTVm14 45 zq_45
          have r18 : 0 ≤ (m14 a0 4) ∧ (m14 a0 4) ≤ 8 := zi_rd hIm14 hc0 zb_10_4
          have y19 := (hvm14.1)
          have y20 := zhid_mk (hvm14.2)
          clear hvm14
          refine zw_ite (fun h21 => ?_) (fun h21 => ?_)
          · have s22 := (zhid_of y20) (by omega)
            have w23 := zu_w32_id (z := x2 + 1) (by omega) (by omega)
            have hM : (701 - (zu_w32 (x2 + 1))) * 1 + 0 < (k : Int) := by omega
            exact zw_le (zu_forget (zu_lr_same (zu_lr_same (zu_lr_same (zu_lr_drop zu_lr_nil))))) (ih (zu_w32 (x2 + 1)) m14 hIm14 hFm14 hLm14 ⟨by omega, by omega⟩ ⟨by omega, by omega⟩ (by omega) hRBNm14 hRK10m14 hM)
          · have s24 := zhid_of y20
            exact zw_some ⟨hIm14, hFm14, hLm14, hRBNm14, hRK10m14, ⟨by omega, by omega⟩⟩
      · have r25 : 0 ≤ (m4 a0 4) ∧ (m4 a0 4) ≤ 8 := zi_rd hIm4 hc0 zb_10_4
        have e26 : (m4 a0 4) = (mh a0 4) := (zfr_ap hfm4 hc0 rfl)
        refine zw_ite (fun h27 => ?_) (fun h27 => ?_)
        · refine zw_ite (fun h28 => ?_) (fun h28 => ?_)
          · refine zw_bd (zw_mono (zk_202k n hIm4 hc0 ⟨by omega, by omega⟩ (by omega) hRBNm4 hRK10m4 hRTVm4) (fun v30 m29 hqm29 => ?_))
            obtain ⟨hIm29, hfm29, hlm29, hvm29⟩ := hqm29
            have hFm29 := zfr_tr hFm4 hfm29 rfl
            have hLm29 := zlow_go hLm4 hlm29
            obtain ⟨hRBNm29, hRK10m29, hRTVm29, hvm29⟩ := hvm29
            have g31 := zop_bd hIm29 hc0
            have s32 := hRTVm29 45 zq_45
            have r33 : 0 ≤ (m29 a0 4) ∧ (m29 a0 4) ≤ 8 := zi_rd hIm29 hc0 zb_10_4
            have y34 := (hvm29.1)
            have y35 := zhid_mk (hvm29.2)
            clear hvm29
            refine zw_ite (fun h36 => ?_) (fun h36 => ?_)
            · have s37 := (zhid_of y35) (by omega)
              have w38 := zu_w32_id (z := x2 + 1) (by omega) (by omega)
              have hM : (701 - (zu_w32 (x2 + 1))) * 1 + 0 < (k : Int) := by omega
              exact zw_le (zu_forget (zu_lr_same (zu_lr_same (zu_lr_same (zu_lr_drop zu_lr_nil))))) (ih (zu_w32 (x2 + 1)) m29 hIm29 hFm29 hLm29 ⟨by omega, by omega⟩ ⟨by omega, by omega⟩ (by omega) hRBNm29 hRK10m29 hM)
            · have s39 := zhid_of y35
              exact zw_some ⟨hIm29, hFm29, hLm29, hRBNm29, hRK10m29, ⟨by omega, by omega⟩⟩
          · exfalso; omega
        · refine zw_bd (zw_eq (zu_call_at (zt_T n) (zm_278 n) (zdp_278 n) _ _ _ _ _ rfl (zr_278_0 n _ _ 45 0 m4)) ?_)
          have r40 : 0 ≤ (m4 45 4) ∧ (m4 45 4) ≤ 5 := zi_rd hIm4 zq_45 zb_9_4
          refine zw_ite (fun h41 => ?_) (fun h41 => ?_)
          · refine zw_b (by omega) ?_
            refine zw_some ?_
            refine zw_ite (fun h42 => ?_) (fun h42 => ?_)
            · refine zw_ite (fun h43 => ?_) (fun h43 => ?_)
              · refine zw_bd (zw_mono (zk_202k n hIm4 hc0 ⟨by omega, by omega⟩ (by omega) hRBNm4 hRK10m4 hRTVm4) (fun v45 m44 hqm44 => ?_))
                obtain ⟨hIm44, hfm44, hlm44, hvm44⟩ := hqm44
                have hFm44 := zfr_tr hFm4 hfm44 rfl
                have hLm44 := zlow_go hLm4 hlm44
                obtain ⟨hRBNm44, hRK10m44, hRTVm44, hvm44⟩ := hvm44
                have g46 := zop_bd hIm44 hc0
                have s47 := hRTVm44 45 zq_45
                have r48 : 0 ≤ (m44 a0 4) ∧ (m44 a0 4) ≤ 8 := zi_rd hIm44 hc0 zb_10_4
                have y49 := (hvm44.1)
                have y50 := zhid_mk (hvm44.2)
                clear hvm44
                refine zw_ite (fun h51 => ?_) (fun h51 => ?_)
                · have s52 := (zhid_of y50) (by omega)
                  have w53 := zu_w32_id (z := x2 + 1) (by omega) (by omega)
                  have hM : (701 - (zu_w32 (x2 + 1))) * 1 + 0 < (k : Int) := by omega
                  exact zw_le (zu_forget (zu_lr_same (zu_lr_same (zu_lr_same (zu_lr_drop zu_lr_nil))))) (ih (zu_w32 (x2 + 1)) m44 hIm44 hFm44 hLm44 ⟨by omega, by omega⟩ ⟨by omega, by omega⟩ (by omega) hRBNm44 hRK10m44 hM)
                · have s54 := zhid_of y50
                  exact zw_some ⟨hIm44, hFm44, hLm44, hRBNm44, hRK10m44, ⟨by omega, by omega⟩⟩
              · exfalso; omega
            · exfalso; omega
          · refine zw_ite (fun h55 => ?_) (fun h55 => ?_)
            · refine zw_b (by omega) ?_
              refine zw_some ?_
              refine zw_ite (fun h56 => ?_) (fun h56 => ?_)
              · refine zw_ite (fun h57 => ?_) (fun h57 => ?_)
                · refine zw_bd (zw_mono (zk_202k n hIm4 hc0 ⟨by omega, by omega⟩ (by omega) hRBNm4 hRK10m4 hRTVm4) (fun v59 m58 hqm58 => ?_))
                  obtain ⟨hIm58, hfm58, hlm58, hvm58⟩ := hqm58
                  have hFm58 := zfr_tr hFm4 hfm58 rfl
                  have hLm58 := zlow_go hLm4 hlm58
                  obtain ⟨hRBNm58, hRK10m58, hRTVm58, hvm58⟩ := hvm58
                  have g60 := zop_bd hIm58 hc0
                  have s61 := hRTVm58 45 zq_45
                  have r62 : 0 ≤ (m58 a0 4) ∧ (m58 a0 4) ≤ 8 := zi_rd hIm58 hc0 zb_10_4
                  have y63 := (hvm58.1)
                  have y64 := zhid_mk (hvm58.2)
                  clear hvm58
                  refine zw_ite (fun h65 => ?_) (fun h65 => ?_)
                  · have s66 := (zhid_of y64) (by omega)
                    have w67 := zu_w32_id (z := x2 + 1) (by omega) (by omega)
                    have hM : (701 - (zu_w32 (x2 + 1))) * 1 + 0 < (k : Int) := by omega
                    exact zw_le (zu_forget (zu_lr_same (zu_lr_same (zu_lr_same (zu_lr_drop zu_lr_nil))))) (ih (zu_w32 (x2 + 1)) m58 hIm58 hFm58 hLm58 ⟨by omega, by omega⟩ ⟨by omega, by omega⟩ (by omega) hRBNm58 hRK10m58 hM)
                  · have s68 := zhid_of y64
                    exact zw_some ⟨hIm58, hFm58, hLm58, hRBNm58, hRK10m58, ⟨by omega, by omega⟩⟩
                · exfalso; omega
              · exfalso; omega
            · refine zw_b (by omega) ?_
              refine zw_some ?_
              refine zw_ite (fun h69 => ?_) (fun h69 => ?_)
              · exfalso; omega
              · refine zw_bd (zw_mono (zk_206k n hIm4 hc0 ⟨by decide, by decide⟩ (by omega) hRBNm4 hRK10m4) (fun v71 m70 hqm70 => ?_))
                obtain ⟨hIm70, hfm70, hlm70, hvm70⟩ := hqm70
                have hFm70 := zfr_tr hFm4 hfm70 rfl
                have hLm70 := zlow_go hLm4 hlm70
                obtain ⟨hRBNm70, hRK10m70, hvm70⟩ := hvm70
                have hRTVm70 := zR_TV_fr (zdis_fr hfm70 rfl) hRTVm4
                have g72 := zop_bd hIm70 hc0
                have s73 := hRTVm70 45 zq_45
                have r74 : 0 ≤ (m70 10 6) ∧ (m70 10 6) ≤ 64 := zi_rd hIm70 zq_10 zb_5_6
                have b75 : 0 ≤ a1 ∧ a1 < 4 := by omega
                refine zw_if b75 ?_
                generalize hmm76 : zu_up m70 (10 + 4) a1 (m70 10 6) = m76
                have hIm76 := zi_up hmm76 hIm70 (zc_5_3 zq_10) (zb_36 _) (by omega) (by omega)
                have hFm76 := zfr_up hmm76 hFm70 (zc_5_3 zq_10) rfl
                have hLm76 := zlow_ne hmm76 hLm70 (zc_5_3 zq_10) (by decide) (by decide) (by decide)
                have g77 := zop_fr (zdis_fr (zfr_up hmm76 (zfr_rf [(36, 0)] _) (zc_5_3 zq_10) rfl) rfl)
                have hRBNm76 := zR_BN_fr (zdis_fr (zfr_up hmm76 (zfr_rf [(36, 0)] _) (zc_5_3 zq_10) rfl) rfl) hRBNm70
                have hRK10m76 := zR_K10_fr (zdis_fr (zfr_up hmm76 (zfr_rf [(36, 0)] _) (zc_5_3 zq_10) rfl) rfl) hRK10m70
                have hRTVm76 := zR_TV_fr (zdis_fr (zfr_up hmm76 (zfr_rf [(36, 0)] _) (zc_5_3 zq_10) rfl) rfl) hRTVm70
                exact zw_some ⟨hIm76, hFm76, hLm76, hRBNm76, hRK10m76, ⟨by decide, by decide⟩⟩
set_option maxHeartbeats 4000000 in
theorem zk_198k (n : Nat) {a0 a1 : Int} {m0 : zu_m} (hIm0 : zi_I m0) (hc0 : zcls a0 = 10) (ha1 : 0 ≤ a1 ∧ a1 ≤ 3)    (hRBNm0 : zR_BN m0) (hRK10m0 : zR_K10 m0) : zw (zu_call (zt_T n) 198 [(24, a0), (0, a1)] m0) (fun v m => zi_I m ∧ zfr [(5, 6), (5, 7), (9, 4), (9, 5), (9, 6), (9, 7), (10, 4), (10, 5), (10, 7), (10, 8), (33, 0), (34, 0), (35, 0), (36, 0), (47, 0), (48, 0)] m0 m ∧ zlow m0 m ∧ zR_BN m ∧ zR_K10 m ∧ (0 ≤ v ∧ v ≤ 2)) := by
  have hFm0 : zfr [(5, 6), (5, 7), (9, 4), (9, 5), (9, 6), (9, 7), (10, 4), (10, 5), (10, 7), (10, 8), (33, 0), (34, 0), (35, 0), (36, 0), (47, 0), (48, 0)] m0 m0 := zfr_rf _ _
  have hLm0 : zlow m0 m0 := zlow_rf m0
  have g78 := zop_bd hIm0 hc0
  refine zw_eq (zu_call_at (zt_T n) (zm_198 n) (zdp_198 n) _ _ _ _ _ rfl (zr_198_0 n _ _ a0 a1 m0)) ?_
  have r79 : 0 ≤ (m0 10 6) ∧ (m0 10 6) ≤ 64 := zi_rd hIm0 zq_10 zb_5_6
  have b80 : 0 ≤ a1 ∧ a1 < 4 := by omega
  refine zw_if b80 ?_
  generalize hmm81 : zu_up m0 (10 + 3) a1 (m0 10 6) = m81
  have hIm81 := zi_up hmm81 hIm0 (zc_5_2 zq_10) (zb_35 _) (by omega) (by omega)
  have hFm81 := zfr_up hmm81 hFm0 (zc_5_2 zq_10) rfl
  have hLm81 := zlow_ne hmm81 hLm0 (zc_5_2 zq_10) (by decide) (by decide) (by decide)
  have g82 := zop_fr (zdis_fr (zfr_up hmm81 (zfr_rf [(35, 0)] _) (zc_5_2 zq_10) rfl) rfl)
  have hRBNm81 := zR_BN_fr (zdis_fr (zfr_up hmm81 (zfr_rf [(35, 0)] _) (zc_5_2 zq_10) rfl) rfl) hRBNm0
  have hRK10m81 := zR_K10_fr (zdis_fr (zfr_up hmm81 (zfr_rf [(35, 0)] _) (zc_5_2 zq_10) rfl) rfl) hRK10m0
  generalize hmm83 : zu_up m81 a0 3 0 = m83
  have hIm83 := zi_up hmm83 hIm81 hc0 zb_10_3 (by omega) (by omega)
  have hFm83 := zfr_up hmm83 hFm81 hc0 rfl
  have hLm83 := zlow_ne hmm83 hLm81 hc0 (by decide) (by decide) (by decide)
  have hRBNm83 := zR_BN_fr (zdis_fr (zfr_up hmm83 (zfr_rf [(10, 4)] _) hc0 rfl) rfl) hRBNm81
  have hRK10m83 := zR_K10_fr (zdis_fr (zfr_up hmm83 (zfr_rf [(10, 4)] _) hc0 rfl) rfl) hRK10m81
  have g84 := zop_zero hmm83 hc0
  generalize hmm85 : zu_up m83 a0 4 0 = m85
  have hIm85 := zi_up hmm85 hIm83 hc0 zb_10_4 (by omega) (by omega)
  have hFm85 := zfr_up hmm85 hFm83 hc0 rfl
  have hLm85 := zlow_ne hmm85 hLm83 hc0 (by decide) (by decide) (by decide)
  have g86 := zop_fr (zdis_fr (zfr_up hmm85 (zfr_rf [(10, 5)] _) hc0 rfl) rfl)
  have hRBNm85 := zR_BN_fr (zdis_fr (zfr_up hmm85 (zfr_rf [(10, 5)] _) hc0 rfl) rfl) hRBNm83
  have hRK10m85 := zR_K10_fr (zdis_fr (zfr_up hmm85 (zfr_rf [(10, 5)] _) hc0 rfl) rfl) hRK10m83
  refine zw_b (by omega) ?_
  have b87 : 0 ≤ (0 : Int) ∧ (0 : Int) < 9 := by omega
  refine zw_if b87 ?_
  generalize hmm88 : zu_up m85 49 0 0 = m88
  have hIm88 := zi_up hmm88 hIm85 zq_49 (zb_48 _) (by omega) (by omega)
  have hFm88 := zfr_up hmm88 hFm85 zq_49 rfl
  have hLm88 := zlow_ne hmm88 hLm85 zq_49 (by decide) (by decide) (by decide)
  have g89 := zop_fr (zdis_fr (zfr_up hmm88 (zfr_rf [(48, 0)] _) zq_49 rfl) rfl)
  have hRBNm88 := zR_BN_fr (zdis_fr (zfr_up hmm88 (zfr_rf [(48, 0)] _) zq_49 rfl) rfl) hRBNm85
  have hRK10m88 := zR_K10_fr (zdis_fr (zfr_up hmm88 (zfr_rf [(48, 0)] _) zq_49 rfl) rfl) hRK10m85
  refine zw_b (by omega) ?_
  generalize hmm90 : zu_up m88 a0 6 1 = m90
  have hIm90 := zi_up hmm90 hIm88 hc0 zb_10_6 (by omega) (by omega)
  have hFm90 := zfr_up hmm90 hFm88 hc0 rfl
  have hLm90 := zlow_ne hmm90 hLm88 hc0 (by decide) (by decide) (by decide)
  have g91 := zop_fr (zdis_fr (zfr_up hmm90 (zfr_rf [(10, 7)] _) hc0 rfl) rfl)
  have hRBNm90 := zR_BN_fr (zdis_fr (zfr_up hmm90 (zfr_rf [(10, 7)] _) hc0 rfl) rfl) hRBNm88
  have hRK10m90 := zR_K10_fr (zdis_fr (zfr_up hmm90 (zfr_rf [(10, 7)] _) hc0 rfl) rfl) hRK10m88
  refine zw_b (by omega) ?_
  generalize hmm92 : zu_up m90 a0 7 1 = m92
  have hIm92 := zi_up hmm92 hIm90 hc0 zb_10_7 (by omega) (by omega)
  have hFm92 := zfr_up hmm92 hFm90 hc0 rfl
  have hLm92 := zlow_ne hmm92 hLm90 hc0 (by decide) (by decide) (by decide)
  have g93 := zop_fr (zdis_fr (zfr_up hmm92 (zfr_rf [(10, 8)] _) hc0 rfl) rfl)
  have hRBNm92 := zR_BN_fr (zdis_fr (zfr_up hmm92 (zfr_rf [(10, 8)] _) hc0 rfl) rfl) hRBNm90
  have hRK10m92 := zR_K10_fr (zdis_fr (zfr_up hmm92 (zfr_rf [(10, 8)] _) hc0 rfl) rfl) hRK10m90
  have r94 : 0 ≤ (m92 a0 4) ∧ (m92 a0 4) ≤ 8 := zi_rd hIm92 hc0 zb_10_4
  have e95 : (m92 a0 4) = 0 := (Eq.trans (zs_ne hmm92 (Or.inr (by decide))) (Eq.trans (zs_ne hmm90 (Or.inr (by decide))) (Eq.trans (zs_ne hmm88 (Or.inl (zc_ne hc0 zq_49 (by decide)))) (zs_eq hmm85))))
  have hM : (701 - 0) * 1 + 0 < ((702 : Nat) : Int) := by omega
  exact (zl_198k n (m0 := m0) hc0 702) 0 m92 hIm92 hFm92 hLm92 ⟨by omega, by omega⟩ ⟨by omega, by omega⟩ (by omega) hRBNm92 hRK10m92 hM
set_option maxHeartbeats 4000000 in
theorem zl_112k (n : Nat) {a0 a1 : Int} {m0 : zu_m} (hc0 : zcls a0 = 28)  (hxp0 : (m0 a0 46) = zbi m0 + 1) (hxp1 : (m0 a0 21) + znz m0 ≤ 64) (hxp2 : 1 ≤ a1) : ∀ k : Nat, (∀ (mh : zu_m), zi_I mh → zfr [(28, 22), (28, 46), (28, 47), (117, 0), (118, 0), (119, 0), (121, 0)] m0 mh → zlot m0 mh → (0 ≤ a1 ∧ a1 ≤ 6) → ((mh a0 21) + znz mh = (m0 a0 21) + znz m0) → ((mh a0 46) - zbi mh = (m0 a0 46) - zbi m0) → ((mh a0 45) - znz mh = (m0 a0 45) - znz m0) → ((m0 a0 21) ≤ (mh a0 21)) → (zR_KN mh) → (mh a0 45) * 1 + 0 < (k : Int) → zw (zu_ex (zt_T n) 112 0 [(40, a0), (0, a1), (2, 0), (2, 0), (2, 0)] [] mh) (fun v m => zi_I m ∧ zfr [(28, 22), (28, 46), (28, 47), (117, 0), (118, 0), (119, 0), (121, 0)] m0 m ∧ zlot m0 m ∧ zR_KN m ∧ True ∧ ((m a0 21) + znz m = (m0 a0 21) + znz m0) ∧ ((m a0 46) - zbi m = (m0 a0 46) - zbi m0) ∧ ((m a0 45) - znz m = (m0 a0 45) - znz m0) ∧ ((m0 a0 21) ≤ (m a0 21)) ∧ (a1 = 1 → ((m a0 45) = 0 ∨ m 211 (zu_w32 ((m a0 45) - 1)) < 2)))) := by
  intro k
  induction k with
  | zero => exact fun mh hImh hFmh hLmh hba1 hH0 hH1 hH2 hH3 hRKNmh hM => by have zq0 := zi_rd hImh hc0 zb_28_45; exfalso; omega
  | succ k ih =>
    intro mh hImh hFmh hLmh hba1 hH0 hH1 hH2 hH3 hRKNmh hM
    refine zw_eq (zu_rega_at (zt_T n) (zm_112 n) (zdp_112 n) _ _ _ _ _ _ (zr_112_0 n _ _ a0 a1 mh)) ?_
    have r1 : 0 ≤ (mh a0 21) ∧ (mh a0 21) ≤ 64 := zi_rd hImh hc0 zb_28_21
    have r2 : 0 ≤ (mh a0 46) ∧ (mh a0 46) ≤ 96 := zi_rd hImh hc0 zb_28_46
    have r3 : 0 ≤ (mh a0 45) ∧ (mh a0 45) ≤ 96 := zi_rd hImh hc0 zb_28_45
    have g4 := zwt_bd hImh hc0
    refine zw_ite (fun h5 => ?_) (fun h5 => ?_)
    · exact zw_some ⟨hImh, hFmh, hLmh, hRKNmh, trivial, by omega, by omega, by omega, by omega, by omega⟩
    · have w6 := zu_w32_id (z := (mh a0 45) - 1) (by omega) (by omega)
      have b7 : 0 ≤ (zu_w32 ((mh a0 45) - 1)) ∧ (zu_w32 ((mh a0 45) - 1)) < 96 := by omega
      refine zw_if b7 ?_
      have r8 : 0 ≤ (mh 211 (zu_w32 ((mh a0 45) - 1))) ∧ (mh 211 (zu_w32 ((mh a0 45) - 1))) ≤ 14 := zi_rd hImh zq_211 (zb_120 _)
      refine zw_bd (zw_eq (zu_call_at (zt_T n) (zm_109 n) (zdp_109 n) _ _ _ _ _ rfl (zr_109_0 n _ _ (mh 211 (zu_w32 ((mh a0 45) - 1))) mh)) ?_)
      refine zw_ite (fun h9 => ?_) (fun h9 => ?_)
      · refine zw_ite (fun h10 => ?_) (fun h10 => ?_)
        · refine zw_ite (fun h11 => ?_) (fun h11 => ?_)
          · refine zw_ite (fun h12 => ?_) (fun h12 => ?_)
            · refine zw_ite (fun h13 => ?_) (fun h13 => ?_)
              · refine zw_ite (fun h14 => ?_) (fun h14 => ?_)
                · refine zw_some ?_
                  refine zw_ite (fun h15 => ?_) (fun h15 => ?_)
                  · exact zw_some ⟨hImh, hFmh, hLmh, hRKNmh, trivial, by omega, by omega, by omega, by omega, by omega⟩
                  · generalize hmm16 : zu_up mh a0 45 (zu_w32 ((mh a0 45) - 1)) = m16
                    have hIm16 := zi_up hmm16 hImh hc0 zb_28_45 (by omega) (by omega)
                    have hFm16 := zfr_up hmm16 hFmh hc0 rfl
                    have hLm16 := zlot_i hmm16 hLmh hc0 (by decide)
                    have hRKNm16 := zR_KN_fr (zdis_fr (zfr_up hmm16 (zfr_rf [(28, 46)] _) hc0 rfl) rfl) hRKNmh
                    have g17 := zwt_pop hmm16 hc0 (by omega) (by omega)
                    have g18 := zwt_bd hIm16 hc0
                    have r19 : 0 ≤ (m16 a0 45) ∧ (m16 a0 45) ≤ 96 := zi_rd hIm16 hc0 zb_28_45
                    have e20 : (m16 a0 45) = (zu_w32 ((mh a0 45) - 1)) := (zs_eq hmm16)
                    have s21 : m16 211 (m16 a0 45) = mh 211 (zu_w32 ((mh a0 45) - 1)) := by rw [zs_eq hmm16]; exact zs_ne hmm16 (Or.inl (zc_ne zq_211 hc0 (by decide)))
                    have b22 : 0 ≤ (m16 a0 45) ∧ (m16 a0 45) < 96 := by omega
                    refine zw_if b22 ?_
                    refine zw_ite (fun h23 => ?_) (fun h23 => ?_)
                    · refine zw_bd (zw_eq (zu_call_at (zt_T n) (zm_111 n) (zdp_111 n) _ _ _ _ _ rfl (zr_111_0 n _ _ a0 m16)) ?_)
                      have r24 : 0 ≤ (m16 a0 46) ∧ (m16 a0 46) ≤ 96 := zi_rd hIm16 hc0 zb_28_46
                      have e25 : (m16 a0 46) = (mh a0 46) := (zs_ne hmm16 (Or.inr (by decide)))
                      have w26 := zu_w32_id (z := (m16 a0 46) - 1) (by omega) (by omega)
                      generalize hmm27 : zu_up m16 a0 46 (zu_w32 ((m16 a0 46) - 1)) = m27
                      have hIm27 := zi_up hmm27 hIm16 hc0 zb_28_46 (by omega) (by omega)
                      have hFm27 := zfr_up hmm27 hFm16 hc0 rfl
                      have hLm27 := zlot_i hmm27 hLm16 hc0 (by decide)
                      have g28 := zwt_fr (zdis_fr (zfr_up hmm27 (zfr_rf [(28, 47)] _) hc0 rfl) rfl)
                      have hRKNm27 := zR_KN_fr (zdis_fr (zfr_up hmm27 (zfr_rf [(28, 47)] _) hc0 rfl) rfl) hRKNm16
                      have r29 : 0 ≤ (m27 a0 46) ∧ (m27 a0 46) ≤ 96 := zi_rd hIm27 hc0 zb_28_46
                      have e30 : (m27 a0 46) = (zu_w32 ((m16 a0 46) - 1)) := (zs_eq hmm27)
                      have b31 : 0 ≤ (m27 a0 46) ∧ (m27 a0 46) < 96 := by omega
                      refine zw_if b31 ?_
                      have r32 : 0 ≤ (m27 212 (m27 a0 46)) ∧ (m27 212 (m27 a0 46)) ≤ 63 := zi_rd hIm27 zq_212 (zb_121 _)
                      refine zw_some ?_
                      refine zw_bd (zw_eq (zu_call_at (zt_T n) (zm_111 n) (zdp_111 n) _ _ _ _ _ rfl (zr_111_0 n _ _ a0 m27)) ?_)
                      have w33 := zu_w32_id (z := (m27 a0 46) - 1) (by omega) (by omega)
                      generalize hmm34 : zu_up m27 a0 46 (zu_w32 ((m27 a0 46) - 1)) = m34
                      have hIm34 := zi_up hmm34 hIm27 hc0 zb_28_46 (by omega) (by omega)
                      have hFm34 := zfr_up hmm34 hFm27 hc0 rfl
                      have hLm34 := zlot_i hmm34 hLm27 hc0 (by decide)
                      have g35 := zwt_fr (zdis_fr (zfr_up hmm34 (zfr_rf [(28, 47)] _) hc0 rfl) rfl)
                      have hRKNm34 := zR_KN_fr (zdis_fr (zfr_up hmm34 (zfr_rf [(28, 47)] _) hc0 rfl) rfl) hRKNm27
                      have r36 : 0 ≤ (m34 a0 46) ∧ (m34 a0 46) ≤ 96 := zi_rd hIm34 hc0 zb_28_46
                      have e37 : (m34 a0 46) = (zu_w32 ((m27 a0 46) - 1)) := (zs_eq hmm34)
                      have b38 : 0 ≤ (m34 a0 46) ∧ (m34 a0 46) < 96 := by omega
                      refine zw_if b38 ?_
                      have r39 : 0 ≤ (m34 212 (m34 a0 46)) ∧ (m34 212 (m34 a0 46)) ≤ 63 := zi_rd hIm34 zq_212 (zb_121 _)
                      refine zw_some ?_
                      have r40 : 0 ≤ (m34 a0 21) ∧ (m34 a0 21) ≤ 64 := zi_rd hIm34 hc0 zb_28_21
                      have e41 : (m34 a0 21) = (mh a0 21) := (Eq.trans (zs_ne hmm34 (Or.inr (by decide))) (Eq.trans (zs_ne hmm27 (Or.inr (by decide))) (zs_ne hmm16 (Or.inr (by decide)))))
                      refine zw_bd (zw_mono (zk_110k n hIm34 hc0 ⟨by omega, by omega⟩ ⟨by omega, by omega⟩ ⟨by omega, by omega⟩ (by omega) (by omega) (by omega) (by omega) (by omega) hRKNm34) (fun v43 m42 hqm42 => ?_))
                      obtain ⟨hIm42, hfm42, hlm42, hvm42⟩ := hqm42
                      have hFm42 := zfr_tr hFm34 hfm42 rfl
                      have hLm42 := zlot_go hLm34 hlm42
                      obtain ⟨hRKNm42, hvm42⟩ := hvm42
                      have g44 := zwt_fr (zdis_fr hfm42 rfl)
                      have g45 := zwt_bd hIm42 hc0
                      have r46 : 0 ≤ (m42 a0 45) ∧ (m42 a0 45) ≤ 96 := zi_rd hIm42 hc0 zb_28_45
                      have e47 : (m42 a0 45) = (m16 a0 45) := (Eq.trans (zfr_ap hfm42 hc0 rfl) (Eq.trans (zs_ne hmm34 (Or.inr (by decide))) (zs_ne hmm27 (Or.inr (by decide)))))
                      have hM : (m42 a0 45) * 1 + 0 < (k : Int) := by omega
                      exact zw_le (zu_forget (zu_lr_same (zu_lr_same (zu_lr_drop (zu_lr_drop (zu_lr_drop zu_lr_nil)))))) (ih  m42 hIm42 hFm42 hLm42 ⟨by omega, by omega⟩ (by omega) (by omega) (by omega) (by omega) hRKNm42 hM)
                    · refine zw_bd (zw_eq (zu_call_at (zt_T n) (zm_111 n) (zdp_111 n) _ _ _ _ _ rfl (zr_111_0 n _ _ a0 m16)) ?_)
                      have r48 : 0 ≤ (m16 a0 46) ∧ (m16 a0 46) ≤ 96 := zi_rd hIm16 hc0 zb_28_46
                      have e49 : (m16 a0 46) = (mh a0 46) := (zs_ne hmm16 (Or.inr (by decide)))
                      have w50 := zu_w32_id (z := (m16 a0 46) - 1) (by omega) (by omega)
                      generalize hmm51 : zu_up m16 a0 46 (zu_w32 ((m16 a0 46) - 1)) = m51
                      have hIm51 := zi_up hmm51 hIm16 hc0 zb_28_46 (by omega) (by omega)
                      have hFm51 := zfr_up hmm51 hFm16 hc0 rfl
                      have hLm51 := zlot_i hmm51 hLm16 hc0 (by decide)
                      have g52 := zwt_fr (zdis_fr (zfr_up hmm51 (zfr_rf [(28, 47)] _) hc0 rfl) rfl)
                      have hRKNm51 := zR_KN_fr (zdis_fr (zfr_up hmm51 (zfr_rf [(28, 47)] _) hc0 rfl) rfl) hRKNm16
                      have r53 : 0 ≤ (m51 a0 46) ∧ (m51 a0 46) ≤ 96 := zi_rd hIm51 hc0 zb_28_46
                      have e54 : (m51 a0 46) = (zu_w32 ((m16 a0 46) - 1)) := (zs_eq hmm51)
                      have b55 : 0 ≤ (m51 a0 46) ∧ (m51 a0 46) < 96 := by omega
                      refine zw_if b55 ?_
                      have r56 : 0 ≤ (m51 212 (m51 a0 46)) ∧ (m51 212 (m51 a0 46)) ≤ 63 := zi_rd hIm51 zq_212 (zb_121 _)
                      refine zw_some ?_
                      have r57 : 0 ≤ (m51 a0 21) ∧ (m51 a0 21) ≤ 64 := zi_rd hIm51 hc0 zb_28_21
                      have e58 : (m51 a0 21) = (mh a0 21) := (Eq.trans (zs_ne hmm51 (Or.inr (by decide))) (zs_ne hmm16 (Or.inr (by decide))))
                      refine zw_bd (zw_mono (zk_110k n hIm51 hc0 ⟨by omega, by omega⟩ ⟨by omega, by omega⟩ ⟨by omega, by omega⟩ (by omega) (by omega) (by omega) (by omega) (by omega) hRKNm51) (fun v60 m59 hqm59 => ?_))
                      obtain ⟨hIm59, hfm59, hlm59, hvm59⟩ := hqm59
                      have hFm59 := zfr_tr hFm51 hfm59 rfl
                      have hLm59 := zlot_go hLm51 hlm59
                      obtain ⟨hRKNm59, hvm59⟩ := hvm59
                      have g61 := zwt_fr (zdis_fr hfm59 rfl)
                      have g62 := zwt_bd hIm59 hc0
                      have r63 : 0 ≤ (m59 a0 45) ∧ (m59 a0 45) ≤ 96 := zi_rd hIm59 hc0 zb_28_45
                      have e64 : (m59 a0 45) = (m16 a0 45) := (Eq.trans (zfr_ap hfm59 hc0 rfl) (zs_ne hmm51 (Or.inr (by decide))))
                      have hM : (m59 a0 45) * 1 + 0 < (k : Int) := by omega
                      exact zw_le (zu_forget (zu_lr_same (zu_lr_same (zu_lr_drop (zu_lr_drop (zu_lr_drop zu_lr_nil)))))) (ih  m59 hIm59 hFm59 hLm59 ⟨by omega, by omega⟩ (by omega) (by omega) (by omega) (by omega) hRKNm59 hM)
                · refine zw_some ?_
                  refine zw_ite (fun h65 => ?_) (fun h65 => ?_)
                  · exact zw_some ⟨hImh, hFmh, hLmh, hRKNmh, trivial, by omega, by omega, by omega, by omega, by omega⟩
                  · generalize hmm66 : zu_up mh a0 45 (zu_w32 ((mh a0 45) - 1)) = m66
                    have hIm66 := zi_up hmm66 hImh hc0 zb_28_45 (by omega) (by omega)
                    have hFm66 := zfr_up hmm66 hFmh hc0 rfl
                    have hLm66 := zlot_i hmm66 hLmh hc0 (by decide)
                    have hRKNm66 := zR_KN_fr (zdis_fr (zfr_up hmm66 (zfr_rf [(28, 46)] _) hc0 rfl) rfl) hRKNmh
                    have g67 := zwt_pop hmm66 hc0 (by omega) (by omega)
                    have g68 := zwt_bd hIm66 hc0
                    have r69 : 0 ≤ (m66 a0 45) ∧ (m66 a0 45) ≤ 96 := zi_rd hIm66 hc0 zb_28_45
                    have e70 : (m66 a0 45) = (zu_w32 ((mh a0 45) - 1)) := (zs_eq hmm66)
                    have s71 : m66 211 (m66 a0 45) = mh 211 (zu_w32 ((mh a0 45) - 1)) := by rw [zs_eq hmm66]; exact zs_ne hmm66 (Or.inl (zc_ne zq_211 hc0 (by decide)))
                    have b72 : 0 ≤ (m66 a0 45) ∧ (m66 a0 45) < 96 := by omega
                    refine zw_if b72 ?_
                    refine zw_ite (fun h73 => ?_) (fun h73 => ?_)
                    · refine zw_bd (zw_eq (zu_call_at (zt_T n) (zm_111 n) (zdp_111 n) _ _ _ _ _ rfl (zr_111_0 n _ _ a0 m66)) ?_)
                      have r74 : 0 ≤ (m66 a0 46) ∧ (m66 a0 46) ≤ 96 := zi_rd hIm66 hc0 zb_28_46
                      have e75 : (m66 a0 46) = (mh a0 46) := (zs_ne hmm66 (Or.inr (by decide)))
                      have w76 := zu_w32_id (z := (m66 a0 46) - 1) (by omega) (by omega)
                      generalize hmm77 : zu_up m66 a0 46 (zu_w32 ((m66 a0 46) - 1)) = m77
                      have hIm77 := zi_up hmm77 hIm66 hc0 zb_28_46 (by omega) (by omega)
                      have hFm77 := zfr_up hmm77 hFm66 hc0 rfl
                      have hLm77 := zlot_i hmm77 hLm66 hc0 (by decide)
                      have g78 := zwt_fr (zdis_fr (zfr_up hmm77 (zfr_rf [(28, 47)] _) hc0 rfl) rfl)
                      have hRKNm77 := zR_KN_fr (zdis_fr (zfr_up hmm77 (zfr_rf [(28, 47)] _) hc0 rfl) rfl) hRKNm66
                      have r79 : 0 ≤ (m77 a0 46) ∧ (m77 a0 46) ≤ 96 := zi_rd hIm77 hc0 zb_28_46
                      have e80 : (m77 a0 46) = (zu_w32 ((m66 a0 46) - 1)) := (zs_eq hmm77)
                      have b81 : 0 ≤ (m77 a0 46) ∧ (m77 a0 46) < 96 := by omega
                      refine zw_if b81 ?_
                      have r82 : 0 ≤ (m77 212 (m77 a0 46)) ∧ (m77 212 (m77 a0 46)) ≤ 63 := zi_rd hIm77 zq_212 (zb_121 _)
                      refine zw_some ?_
                      refine zw_bd (zw_eq (zu_call_at (zt_T n) (zm_111 n) (zdp_111 n) _ _ _ _ _ rfl (zr_111_0 n _ _ a0 m77)) ?_)
                      have w83 := zu_w32_id (z := (m77 a0 46) - 1) (by omega) (by omega)
                      generalize hmm84 : zu_up m77 a0 46 (zu_w32 ((m77 a0 46) - 1)) = m84
                      have hIm84 := zi_up hmm84 hIm77 hc0 zb_28_46 (by omega) (by omega)
                      have hFm84 := zfr_up hmm84 hFm77 hc0 rfl
                      have hLm84 := zlot_i hmm84 hLm77 hc0 (by decide)
                      have g85 := zwt_fr (zdis_fr (zfr_up hmm84 (zfr_rf [(28, 47)] _) hc0 rfl) rfl)
                      have hRKNm84 := zR_KN_fr (zdis_fr (zfr_up hmm84 (zfr_rf [(28, 47)] _) hc0 rfl) rfl) hRKNm77
                      have r86 : 0 ≤ (m84 a0 46) ∧ (m84 a0 46) ≤ 96 := zi_rd hIm84 hc0 zb_28_46
                      have e87 : (m84 a0 46) = (zu_w32 ((m77 a0 46) - 1)) := (zs_eq hmm84)
                      have b88 : 0 ≤ (m84 a0 46) ∧ (m84 a0 46) < 96 := by omega
                      refine zw_if b88 ?_
                      have r89 : 0 ≤ (m84 212 (m84 a0 46)) ∧ (m84 212 (m84 a0 46)) ≤ 63 := zi_rd hIm84 zq_212 (zb_121 _)
                      refine zw_some ?_
                      have r90 : 0 ≤ (m84 a0 21) ∧ (m84 a0 21) ≤ 64 := zi_rd hIm84 hc0 zb_28_21
                      have e91 : (m84 a0 21) = (mh a0 21) := (Eq.trans (zs_ne hmm84 (Or.inr (by decide))) (Eq.trans (zs_ne hmm77 (Or.inr (by decide))) (zs_ne hmm66 (Or.inr (by decide)))))
                      refine zw_bd (zw_mono (zk_110k n hIm84 hc0 ⟨by omega, by omega⟩ ⟨by omega, by omega⟩ ⟨by omega, by omega⟩ (by omega) (by omega) (by omega) (by omega) (by omega) hRKNm84) (fun v93 m92 hqm92 => ?_))
                      obtain ⟨hIm92, hfm92, hlm92, hvm92⟩ := hqm92
                      have hFm92 := zfr_tr hFm84 hfm92 rfl
                      have hLm92 := zlot_go hLm84 hlm92
                      obtain ⟨hRKNm92, hvm92⟩ := hvm92
                      have g94 := zwt_fr (zdis_fr hfm92 rfl)
                      have g95 := zwt_bd hIm92 hc0
                      have r96 : 0 ≤ (m92 a0 45) ∧ (m92 a0 45) ≤ 96 := zi_rd hIm92 hc0 zb_28_45
                      have e97 : (m92 a0 45) = (m66 a0 45) := (Eq.trans (zfr_ap hfm92 hc0 rfl) (Eq.trans (zs_ne hmm84 (Or.inr (by decide))) (zs_ne hmm77 (Or.inr (by decide)))))
                      have hM : (m92 a0 45) * 1 + 0 < (k : Int) := by omega
                      exact zw_le (zu_forget (zu_lr_same (zu_lr_same (zu_lr_drop (zu_lr_drop (zu_lr_drop zu_lr_nil)))))) (ih  m92 hIm92 hFm92 hLm92 ⟨by omega, by omega⟩ (by omega) (by omega) (by omega) (by omega) hRKNm92 hM)
                    · exfalso; omega
              · refine zw_some ?_
                refine zw_ite (fun h98 => ?_) (fun h98 => ?_)
                · exact zw_some ⟨hImh, hFmh, hLmh, hRKNmh, trivial, by omega, by omega, by omega, by omega, by omega⟩
                · generalize hmm99 : zu_up mh a0 45 (zu_w32 ((mh a0 45) - 1)) = m99
                  have hIm99 := zi_up hmm99 hImh hc0 zb_28_45 (by omega) (by omega)
                  have hFm99 := zfr_up hmm99 hFmh hc0 rfl
                  have hLm99 := zlot_i hmm99 hLmh hc0 (by decide)
                  have hRKNm99 := zR_KN_fr (zdis_fr (zfr_up hmm99 (zfr_rf [(28, 46)] _) hc0 rfl) rfl) hRKNmh
                  have g100 := zwt_pop hmm99 hc0 (by omega) (by omega)
                  have g101 := zwt_bd hIm99 hc0
                  have r102 : 0 ≤ (m99 a0 45) ∧ (m99 a0 45) ≤ 96 := zi_rd hIm99 hc0 zb_28_45
                  have e103 : (m99 a0 45) = (zu_w32 ((mh a0 45) - 1)) := (zs_eq hmm99)
                  have s104 : m99 211 (m99 a0 45) = mh 211 (zu_w32 ((mh a0 45) - 1)) := by rw [zs_eq hmm99]; exact zs_ne hmm99 (Or.inl (zc_ne zq_211 hc0 (by decide)))
                  have b105 : 0 ≤ (m99 a0 45) ∧ (m99 a0 45) < 96 := by omega
                  refine zw_if b105 ?_
                  refine zw_ite (fun h106 => ?_) (fun h106 => ?_)
                  · refine zw_bd (zw_eq (zu_call_at (zt_T n) (zm_111 n) (zdp_111 n) _ _ _ _ _ rfl (zr_111_0 n _ _ a0 m99)) ?_)
                    have r107 : 0 ≤ (m99 a0 46) ∧ (m99 a0 46) ≤ 96 := zi_rd hIm99 hc0 zb_28_46
                    have e108 : (m99 a0 46) = (mh a0 46) := (zs_ne hmm99 (Or.inr (by decide)))
                    have w109 := zu_w32_id (z := (m99 a0 46) - 1) (by omega) (by omega)
                    generalize hmm110 : zu_up m99 a0 46 (zu_w32 ((m99 a0 46) - 1)) = m110
                    have hIm110 := zi_up hmm110 hIm99 hc0 zb_28_46 (by omega) (by omega)
                    have hFm110 := zfr_up hmm110 hFm99 hc0 rfl
                    have hLm110 := zlot_i hmm110 hLm99 hc0 (by decide)
                    have g111 := zwt_fr (zdis_fr (zfr_up hmm110 (zfr_rf [(28, 47)] _) hc0 rfl) rfl)
                    have hRKNm110 := zR_KN_fr (zdis_fr (zfr_up hmm110 (zfr_rf [(28, 47)] _) hc0 rfl) rfl) hRKNm99
                    have r112 : 0 ≤ (m110 a0 46) ∧ (m110 a0 46) ≤ 96 := zi_rd hIm110 hc0 zb_28_46
                    have e113 : (m110 a0 46) = (zu_w32 ((m99 a0 46) - 1)) := (zs_eq hmm110)
                    have b114 : 0 ≤ (m110 a0 46) ∧ (m110 a0 46) < 96 := by omega
                    refine zw_if b114 ?_
                    have r115 : 0 ≤ (m110 212 (m110 a0 46)) ∧ (m110 212 (m110 a0 46)) ≤ 63 := zi_rd hIm110 zq_212 (zb_121 _)
                    refine zw_some ?_
                    refine zw_bd (zw_eq (zu_call_at (zt_T n) (zm_111 n) (zdp_111 n) _ _ _ _ _ rfl (zr_111_0 n _ _ a0 m110)) ?_)
                    have w116 := zu_w32_id (z := (m110 a0 46) - 1) (by omega) (by omega)
                    generalize hmm117 : zu_up m110 a0 46 (zu_w32 ((m110 a0 46) - 1)) = m117
                    have hIm117 := zi_up hmm117 hIm110 hc0 zb_28_46 (by omega) (by omega)
                    have hFm117 := zfr_up hmm117 hFm110 hc0 rfl
                    have hLm117 := zlot_i hmm117 hLm110 hc0 (by decide)
                    have g118 := zwt_fr (zdis_fr (zfr_up hmm117 (zfr_rf [(28, 47)] _) hc0 rfl) rfl)
                    have hRKNm117 := zR_KN_fr (zdis_fr (zfr_up hmm117 (zfr_rf [(28, 47)] _) hc0 rfl) rfl) hRKNm110
                    have r119 : 0 ≤ (m117 a0 46) ∧ (m117 a0 46) ≤ 96 := zi_rd hIm117 hc0 zb_28_46
                    have e120 : (m117 a0 46) = (zu_w32 ((m110 a0 46) - 1)) := (zs_eq hmm117)
                    have b121 : 0 ≤ (m117 a0 46) ∧ (m117 a0 46) < 96 := by omega
                    refine zw_if b121 ?_
                    have r122 : 0 ≤ (m117 212 (m117 a0 46)) ∧ (m117 212 (m117 a0 46)) ≤ 63 := zi_rd hIm117 zq_212 (zb_121 _)
                    refine zw_some ?_
                    have r123 : 0 ≤ (m117 a0 21) ∧ (m117 a0 21) ≤ 64 := zi_rd hIm117 hc0 zb_28_21
                    have e124 : (m117 a0 21) = (mh a0 21) := (Eq.trans (zs_ne hmm117 (Or.inr (by decide))) (Eq.trans (zs_ne hmm110 (Or.inr (by decide))) (zs_ne hmm99 (Or.inr (by decide)))))
                    refine zw_bd (zw_mono (zk_110k n hIm117 hc0 ⟨by omega, by omega⟩ ⟨by omega, by omega⟩ ⟨by omega, by omega⟩ (by omega) (by omega) (by omega) (by omega) (by omega) hRKNm117) (fun v126 m125 hqm125 => ?_))
                    obtain ⟨hIm125, hfm125, hlm125, hvm125⟩ := hqm125
                    have hFm125 := zfr_tr hFm117 hfm125 rfl
                    have hLm125 := zlot_go hLm117 hlm125
                    obtain ⟨hRKNm125, hvm125⟩ := hvm125
                    have g127 := zwt_fr (zdis_fr hfm125 rfl)
                    have g128 := zwt_bd hIm125 hc0
                    have r129 : 0 ≤ (m125 a0 45) ∧ (m125 a0 45) ≤ 96 := zi_rd hIm125 hc0 zb_28_45
                    have e130 : (m125 a0 45) = (m99 a0 45) := (Eq.trans (zfr_ap hfm125 hc0 rfl) (Eq.trans (zs_ne hmm117 (Or.inr (by decide))) (zs_ne hmm110 (Or.inr (by decide)))))
                    have hM : (m125 a0 45) * 1 + 0 < (k : Int) := by omega
                    exact zw_le (zu_forget (zu_lr_same (zu_lr_same (zu_lr_drop (zu_lr_drop (zu_lr_drop zu_lr_nil)))))) (ih  m125 hIm125 hFm125 hLm125 ⟨by omega, by omega⟩ (by omega) (by omega) (by omega) (by omega) hRKNm125 hM)
                  · exfalso; omega
            · refine zw_some ?_
              refine zw_ite (fun h131 => ?_) (fun h131 => ?_)
              · exact zw_some ⟨hImh, hFmh, hLmh, hRKNmh, trivial, by omega, by omega, by omega, by omega, by omega⟩
              · generalize hmm132 : zu_up mh a0 45 (zu_w32 ((mh a0 45) - 1)) = m132
                have hIm132 := zi_up hmm132 hImh hc0 zb_28_45 (by omega) (by omega)
                have hFm132 := zfr_up hmm132 hFmh hc0 rfl
                have hLm132 := zlot_i hmm132 hLmh hc0 (by decide)
                have hRKNm132 := zR_KN_fr (zdis_fr (zfr_up hmm132 (zfr_rf [(28, 46)] _) hc0 rfl) rfl) hRKNmh
                have g133 := zwt_pop hmm132 hc0 (by omega) (by omega)
                have g134 := zwt_bd hIm132 hc0
                have r135 : 0 ≤ (m132 a0 45) ∧ (m132 a0 45) ≤ 96 := zi_rd hIm132 hc0 zb_28_45
                have e136 : (m132 a0 45) = (zu_w32 ((mh a0 45) - 1)) := (zs_eq hmm132)
                have s137 : m132 211 (m132 a0 45) = mh 211 (zu_w32 ((mh a0 45) - 1)) := by rw [zs_eq hmm132]; exact zs_ne hmm132 (Or.inl (zc_ne zq_211 hc0 (by decide)))
                have b138 : 0 ≤ (m132 a0 45) ∧ (m132 a0 45) < 96 := by omega
                refine zw_if b138 ?_
                refine zw_ite (fun h139 => ?_) (fun h139 => ?_)
                · exfalso; omega
                · refine zw_bd (zw_eq (zu_call_at (zt_T n) (zm_111 n) (zdp_111 n) _ _ _ _ _ rfl (zr_111_0 n _ _ a0 m132)) ?_)
                  have r140 : 0 ≤ (m132 a0 46) ∧ (m132 a0 46) ≤ 96 := zi_rd hIm132 hc0 zb_28_46
                  have e141 : (m132 a0 46) = (mh a0 46) := (zs_ne hmm132 (Or.inr (by decide)))
                  have w142 := zu_w32_id (z := (m132 a0 46) - 1) (by omega) (by omega)
                  generalize hmm143 : zu_up m132 a0 46 (zu_w32 ((m132 a0 46) - 1)) = m143
                  have hIm143 := zi_up hmm143 hIm132 hc0 zb_28_46 (by omega) (by omega)
                  have hFm143 := zfr_up hmm143 hFm132 hc0 rfl
                  have hLm143 := zlot_i hmm143 hLm132 hc0 (by decide)
                  have g144 := zwt_fr (zdis_fr (zfr_up hmm143 (zfr_rf [(28, 47)] _) hc0 rfl) rfl)
                  have hRKNm143 := zR_KN_fr (zdis_fr (zfr_up hmm143 (zfr_rf [(28, 47)] _) hc0 rfl) rfl) hRKNm132
                  have r145 : 0 ≤ (m143 a0 46) ∧ (m143 a0 46) ≤ 96 := zi_rd hIm143 hc0 zb_28_46
                  have e146 : (m143 a0 46) = (zu_w32 ((m132 a0 46) - 1)) := (zs_eq hmm143)
                  have b147 : 0 ≤ (m143 a0 46) ∧ (m143 a0 46) < 96 := by omega
                  refine zw_if b147 ?_
                  have r148 : 0 ≤ (m143 212 (m143 a0 46)) ∧ (m143 212 (m143 a0 46)) ≤ 63 := zi_rd hIm143 zq_212 (zb_121 _)
                  refine zw_some ?_
                  have r149 : 0 ≤ (m143 a0 21) ∧ (m143 a0 21) ≤ 64 := zi_rd hIm143 hc0 zb_28_21
                  have e150 : (m143 a0 21) = (mh a0 21) := (Eq.trans (zs_ne hmm143 (Or.inr (by decide))) (zs_ne hmm132 (Or.inr (by decide))))
                  refine zw_bd (zw_mono (zk_110k n hIm143 hc0 ⟨by omega, by omega⟩ ⟨by omega, by omega⟩ ⟨by omega, by omega⟩ (by omega) (by omega) (by omega) (by omega) (by omega) hRKNm143) (fun v152 m151 hqm151 => ?_))
                  obtain ⟨hIm151, hfm151, hlm151, hvm151⟩ := hqm151
                  have hFm151 := zfr_tr hFm143 hfm151 rfl
                  have hLm151 := zlot_go hLm143 hlm151
                  obtain ⟨hRKNm151, hvm151⟩ := hvm151
                  have g153 := zwt_fr (zdis_fr hfm151 rfl)
                  have g154 := zwt_bd hIm151 hc0
                  have r155 : 0 ≤ (m151 a0 45) ∧ (m151 a0 45) ≤ 96 := zi_rd hIm151 hc0 zb_28_45
                  have e156 : (m151 a0 45) = (m132 a0 45) := (Eq.trans (zfr_ap hfm151 hc0 rfl) (zs_ne hmm143 (Or.inr (by decide))))
                  have hM : (m151 a0 45) * 1 + 0 < (k : Int) := by omega
                  exact zw_le (zu_forget (zu_lr_same (zu_lr_same (zu_lr_drop (zu_lr_drop (zu_lr_drop zu_lr_nil)))))) (ih  m151 hIm151 hFm151 hLm151 ⟨by omega, by omega⟩ (by omega) (by omega) (by omega) (by omega) hRKNm151 hM)
          · refine zw_some ?_
            refine zw_ite (fun h157 => ?_) (fun h157 => ?_)
            · exact zw_some ⟨hImh, hFmh, hLmh, hRKNmh, trivial, by omega, by omega, by omega, by omega, by omega⟩
            · generalize hmm158 : zu_up mh a0 45 (zu_w32 ((mh a0 45) - 1)) = m158
              have hIm158 := zi_up hmm158 hImh hc0 zb_28_45 (by omega) (by omega)
              have hFm158 := zfr_up hmm158 hFmh hc0 rfl
              have hLm158 := zlot_i hmm158 hLmh hc0 (by decide)
              have hRKNm158 := zR_KN_fr (zdis_fr (zfr_up hmm158 (zfr_rf [(28, 46)] _) hc0 rfl) rfl) hRKNmh
              have g159 := zwt_pop hmm158 hc0 (by omega) (by omega)
              have g160 := zwt_bd hIm158 hc0
              have r161 : 0 ≤ (m158 a0 45) ∧ (m158 a0 45) ≤ 96 := zi_rd hIm158 hc0 zb_28_45
              have e162 : (m158 a0 45) = (zu_w32 ((mh a0 45) - 1)) := (zs_eq hmm158)
              have s163 : m158 211 (m158 a0 45) = mh 211 (zu_w32 ((mh a0 45) - 1)) := by rw [zs_eq hmm158]; exact zs_ne hmm158 (Or.inl (zc_ne zq_211 hc0 (by decide)))
              have b164 : 0 ≤ (m158 a0 45) ∧ (m158 a0 45) < 96 := by omega
              refine zw_if b164 ?_
              refine zw_ite (fun h165 => ?_) (fun h165 => ?_)
              · refine zw_bd (zw_eq (zu_call_at (zt_T n) (zm_111 n) (zdp_111 n) _ _ _ _ _ rfl (zr_111_0 n _ _ a0 m158)) ?_)
                have r166 : 0 ≤ (m158 a0 46) ∧ (m158 a0 46) ≤ 96 := zi_rd hIm158 hc0 zb_28_46
                have e167 : (m158 a0 46) = (mh a0 46) := (zs_ne hmm158 (Or.inr (by decide)))
                have w168 := zu_w32_id (z := (m158 a0 46) - 1) (by omega) (by omega)
                generalize hmm169 : zu_up m158 a0 46 (zu_w32 ((m158 a0 46) - 1)) = m169
                have hIm169 := zi_up hmm169 hIm158 hc0 zb_28_46 (by omega) (by omega)
                have hFm169 := zfr_up hmm169 hFm158 hc0 rfl
                have hLm169 := zlot_i hmm169 hLm158 hc0 (by decide)
                have g170 := zwt_fr (zdis_fr (zfr_up hmm169 (zfr_rf [(28, 47)] _) hc0 rfl) rfl)
                have hRKNm169 := zR_KN_fr (zdis_fr (zfr_up hmm169 (zfr_rf [(28, 47)] _) hc0 rfl) rfl) hRKNm158
                have r171 : 0 ≤ (m169 a0 46) ∧ (m169 a0 46) ≤ 96 := zi_rd hIm169 hc0 zb_28_46
                have e172 : (m169 a0 46) = (zu_w32 ((m158 a0 46) - 1)) := (zs_eq hmm169)
                have b173 : 0 ≤ (m169 a0 46) ∧ (m169 a0 46) < 96 := by omega
                refine zw_if b173 ?_
                have r174 : 0 ≤ (m169 212 (m169 a0 46)) ∧ (m169 212 (m169 a0 46)) ≤ 63 := zi_rd hIm169 zq_212 (zb_121 _)
                refine zw_some ?_
                refine zw_bd (zw_eq (zu_call_at (zt_T n) (zm_111 n) (zdp_111 n) _ _ _ _ _ rfl (zr_111_0 n _ _ a0 m169)) ?_)
                have w175 := zu_w32_id (z := (m169 a0 46) - 1) (by omega) (by omega)
                generalize hmm176 : zu_up m169 a0 46 (zu_w32 ((m169 a0 46) - 1)) = m176
                have hIm176 := zi_up hmm176 hIm169 hc0 zb_28_46 (by omega) (by omega)
                have hFm176 := zfr_up hmm176 hFm169 hc0 rfl
                have hLm176 := zlot_i hmm176 hLm169 hc0 (by decide)
                have g177 := zwt_fr (zdis_fr (zfr_up hmm176 (zfr_rf [(28, 47)] _) hc0 rfl) rfl)
                have hRKNm176 := zR_KN_fr (zdis_fr (zfr_up hmm176 (zfr_rf [(28, 47)] _) hc0 rfl) rfl) hRKNm169
                have r178 : 0 ≤ (m176 a0 46) ∧ (m176 a0 46) ≤ 96 := zi_rd hIm176 hc0 zb_28_46
                have e179 : (m176 a0 46) = (zu_w32 ((m169 a0 46) - 1)) := (zs_eq hmm176)
                have b180 : 0 ≤ (m176 a0 46) ∧ (m176 a0 46) < 96 := by omega
                refine zw_if b180 ?_
                have r181 : 0 ≤ (m176 212 (m176 a0 46)) ∧ (m176 212 (m176 a0 46)) ≤ 63 := zi_rd hIm176 zq_212 (zb_121 _)
                refine zw_some ?_
                have r182 : 0 ≤ (m176 a0 21) ∧ (m176 a0 21) ≤ 64 := zi_rd hIm176 hc0 zb_28_21
                have e183 : (m176 a0 21) = (mh a0 21) := (Eq.trans (zs_ne hmm176 (Or.inr (by decide))) (Eq.trans (zs_ne hmm169 (Or.inr (by decide))) (zs_ne hmm158 (Or.inr (by decide)))))
                refine zw_bd (zw_mono (zk_110k n hIm176 hc0 ⟨by omega, by omega⟩ ⟨by omega, by omega⟩ ⟨by omega, by omega⟩ (by omega) (by omega) (by omega) (by omega) (by omega) hRKNm176) (fun v185 m184 hqm184 => ?_))
                obtain ⟨hIm184, hfm184, hlm184, hvm184⟩ := hqm184
                have hFm184 := zfr_tr hFm176 hfm184 rfl
                have hLm184 := zlot_go hLm176 hlm184
                obtain ⟨hRKNm184, hvm184⟩ := hvm184
                have g186 := zwt_fr (zdis_fr hfm184 rfl)
                have g187 := zwt_bd hIm184 hc0
                have r188 : 0 ≤ (m184 a0 45) ∧ (m184 a0 45) ≤ 96 := zi_rd hIm184 hc0 zb_28_45
                have e189 : (m184 a0 45) = (m158 a0 45) := (Eq.trans (zfr_ap hfm184 hc0 rfl) (Eq.trans (zs_ne hmm176 (Or.inr (by decide))) (zs_ne hmm169 (Or.inr (by decide)))))
                have hM : (m184 a0 45) * 1 + 0 < (k : Int) := by omega
                exact zw_le (zu_forget (zu_lr_same (zu_lr_same (zu_lr_drop (zu_lr_drop (zu_lr_drop zu_lr_nil)))))) (ih  m184 hIm184 hFm184 hLm184 ⟨by omega, by omega⟩ (by omega) (by omega) (by omega) (by omega) hRKNm184 hM)
              · exfalso; omega
        · refine zw_some ?_
          refine zw_ite (fun h190 => ?_) (fun h190 => ?_)
          · exact zw_some ⟨hImh, hFmh, hLmh, hRKNmh, trivial, by omega, by omega, by omega, by omega, by omega⟩
          · generalize hmm191 : zu_up mh a0 45 (zu_w32 ((mh a0 45) - 1)) = m191
            have hIm191 := zi_up hmm191 hImh hc0 zb_28_45 (by omega) (by omega)
            have hFm191 := zfr_up hmm191 hFmh hc0 rfl
            have hLm191 := zlot_i hmm191 hLmh hc0 (by decide)
            have hRKNm191 := zR_KN_fr (zdis_fr (zfr_up hmm191 (zfr_rf [(28, 46)] _) hc0 rfl) rfl) hRKNmh
            have g192 := zwt_pop hmm191 hc0 (by omega) (by omega)
            have g193 := zwt_bd hIm191 hc0
            have r194 : 0 ≤ (m191 a0 45) ∧ (m191 a0 45) ≤ 96 := zi_rd hIm191 hc0 zb_28_45
            have e195 : (m191 a0 45) = (zu_w32 ((mh a0 45) - 1)) := (zs_eq hmm191)
            have s196 : m191 211 (m191 a0 45) = mh 211 (zu_w32 ((mh a0 45) - 1)) := by rw [zs_eq hmm191]; exact zs_ne hmm191 (Or.inl (zc_ne zq_211 hc0 (by decide)))
            have b197 : 0 ≤ (m191 a0 45) ∧ (m191 a0 45) < 96 := by omega
            refine zw_if b197 ?_
            refine zw_ite (fun h198 => ?_) (fun h198 => ?_)
            · refine zw_bd (zw_eq (zu_call_at (zt_T n) (zm_111 n) (zdp_111 n) _ _ _ _ _ rfl (zr_111_0 n _ _ a0 m191)) ?_)
              have r199 : 0 ≤ (m191 a0 46) ∧ (m191 a0 46) ≤ 96 := zi_rd hIm191 hc0 zb_28_46
              have e200 : (m191 a0 46) = (mh a0 46) := (zs_ne hmm191 (Or.inr (by decide)))
              have w201 := zu_w32_id (z := (m191 a0 46) - 1) (by omega) (by omega)
              generalize hmm202 : zu_up m191 a0 46 (zu_w32 ((m191 a0 46) - 1)) = m202
              have hIm202 := zi_up hmm202 hIm191 hc0 zb_28_46 (by omega) (by omega)
              have hFm202 := zfr_up hmm202 hFm191 hc0 rfl
              have hLm202 := zlot_i hmm202 hLm191 hc0 (by decide)
              have g203 := zwt_fr (zdis_fr (zfr_up hmm202 (zfr_rf [(28, 47)] _) hc0 rfl) rfl)
              have hRKNm202 := zR_KN_fr (zdis_fr (zfr_up hmm202 (zfr_rf [(28, 47)] _) hc0 rfl) rfl) hRKNm191
              have r204 : 0 ≤ (m202 a0 46) ∧ (m202 a0 46) ≤ 96 := zi_rd hIm202 hc0 zb_28_46
              have e205 : (m202 a0 46) = (zu_w32 ((m191 a0 46) - 1)) := (zs_eq hmm202)
              have b206 : 0 ≤ (m202 a0 46) ∧ (m202 a0 46) < 96 := by omega
              refine zw_if b206 ?_
              have r207 : 0 ≤ (m202 212 (m202 a0 46)) ∧ (m202 212 (m202 a0 46)) ≤ 63 := zi_rd hIm202 zq_212 (zb_121 _)
              refine zw_some ?_
              refine zw_bd (zw_eq (zu_call_at (zt_T n) (zm_111 n) (zdp_111 n) _ _ _ _ _ rfl (zr_111_0 n _ _ a0 m202)) ?_)
              have w208 := zu_w32_id (z := (m202 a0 46) - 1) (by omega) (by omega)
              generalize hmm209 : zu_up m202 a0 46 (zu_w32 ((m202 a0 46) - 1)) = m209
              have hIm209 := zi_up hmm209 hIm202 hc0 zb_28_46 (by omega) (by omega)
              have hFm209 := zfr_up hmm209 hFm202 hc0 rfl
              have hLm209 := zlot_i hmm209 hLm202 hc0 (by decide)
              have g210 := zwt_fr (zdis_fr (zfr_up hmm209 (zfr_rf [(28, 47)] _) hc0 rfl) rfl)
              have hRKNm209 := zR_KN_fr (zdis_fr (zfr_up hmm209 (zfr_rf [(28, 47)] _) hc0 rfl) rfl) hRKNm202
              have r211 : 0 ≤ (m209 a0 46) ∧ (m209 a0 46) ≤ 96 := zi_rd hIm209 hc0 zb_28_46
              have e212 : (m209 a0 46) = (zu_w32 ((m202 a0 46) - 1)) := (zs_eq hmm209)
              have b213 : 0 ≤ (m209 a0 46) ∧ (m209 a0 46) < 96 := by omega
              refine zw_if b213 ?_
              have r214 : 0 ≤ (m209 212 (m209 a0 46)) ∧ (m209 212 (m209 a0 46)) ≤ 63 := zi_rd hIm209 zq_212 (zb_121 _)
              refine zw_some ?_
              have r215 : 0 ≤ (m209 a0 21) ∧ (m209 a0 21) ≤ 64 := zi_rd hIm209 hc0 zb_28_21
              have e216 : (m209 a0 21) = (mh a0 21) := (Eq.trans (zs_ne hmm209 (Or.inr (by decide))) (Eq.trans (zs_ne hmm202 (Or.inr (by decide))) (zs_ne hmm191 (Or.inr (by decide)))))
              refine zw_bd (zw_mono (zk_110k n hIm209 hc0 ⟨by omega, by omega⟩ ⟨by omega, by omega⟩ ⟨by omega, by omega⟩ (by omega) (by omega) (by omega) (by omega) (by omega) hRKNm209) (fun v218 m217 hqm217 => ?_))
              obtain ⟨hIm217, hfm217, hlm217, hvm217⟩ := hqm217
              have hFm217 := zfr_tr hFm209 hfm217 rfl
              have hLm217 := zlot_go hLm209 hlm217
              obtain ⟨hRKNm217, hvm217⟩ := hvm217
              have g219 := zwt_fr (zdis_fr hfm217 rfl)
              have g220 := zwt_bd hIm217 hc0
              have r221 : 0 ≤ (m217 a0 45) ∧ (m217 a0 45) ≤ 96 := zi_rd hIm217 hc0 zb_28_45
              have e222 : (m217 a0 45) = (m191 a0 45) := (Eq.trans (zfr_ap hfm217 hc0 rfl) (Eq.trans (zs_ne hmm209 (Or.inr (by decide))) (zs_ne hmm202 (Or.inr (by decide)))))
              have hM : (m217 a0 45) * 1 + 0 < (k : Int) := by omega
              exact zw_le (zu_forget (zu_lr_same (zu_lr_same (zu_lr_drop (zu_lr_drop (zu_lr_drop zu_lr_nil)))))) (ih  m217 hIm217 hFm217 hLm217 ⟨by omega, by omega⟩ (by omega) (by omega) (by omega) (by omega) hRKNm217 hM)
            · exfalso; omega
      · refine zw_some ?_
        refine zw_ite (fun h223 => ?_) (fun h223 => ?_)
        · exfalso; omega
        · generalize hmm224 : zu_up mh a0 45 (zu_w32 ((mh a0 45) - 1)) = m224
          have hIm224 := zi_up hmm224 hImh hc0 zb_28_45 (by omega) (by omega)
          have hFm224 := zfr_up hmm224 hFmh hc0 rfl
          have hLm224 := zlot_i hmm224 hLmh hc0 (by decide)
          have hRKNm224 := zR_KN_fr (zdis_fr (zfr_up hmm224 (zfr_rf [(28, 46)] _) hc0 rfl) rfl) hRKNmh
          have g225 := zwt_pop hmm224 hc0 (by omega) (by omega)
          have g226 := zwt_bd hIm224 hc0
          have r227 : 0 ≤ (m224 a0 45) ∧ (m224 a0 45) ≤ 96 := zi_rd hIm224 hc0 zb_28_45
          have e228 : (m224 a0 45) = (zu_w32 ((mh a0 45) - 1)) := (zs_eq hmm224)
          have s229 : m224 211 (m224 a0 45) = mh 211 (zu_w32 ((mh a0 45) - 1)) := by rw [zs_eq hmm224]; exact zs_ne hmm224 (Or.inl (zc_ne zq_211 hc0 (by decide)))
          have b230 : 0 ≤ (m224 a0 45) ∧ (m224 a0 45) < 96 := by omega
          refine zw_if b230 ?_
          refine zw_ite (fun h231 => ?_) (fun h231 => ?_)
          · refine zw_bd (zw_eq (zu_call_at (zt_T n) (zm_111 n) (zdp_111 n) _ _ _ _ _ rfl (zr_111_0 n _ _ a0 m224)) ?_)
            have r232 : 0 ≤ (m224 a0 46) ∧ (m224 a0 46) ≤ 96 := zi_rd hIm224 hc0 zb_28_46
            have e233 : (m224 a0 46) = (mh a0 46) := (zs_ne hmm224 (Or.inr (by decide)))
            have w234 := zu_w32_id (z := (m224 a0 46) - 1) (by omega) (by omega)
            generalize hmm235 : zu_up m224 a0 46 (zu_w32 ((m224 a0 46) - 1)) = m235
            have hIm235 := zi_up hmm235 hIm224 hc0 zb_28_46 (by omega) (by omega)
            have hFm235 := zfr_up hmm235 hFm224 hc0 rfl
            have hLm235 := zlot_i hmm235 hLm224 hc0 (by decide)
            have g236 := zwt_fr (zdis_fr (zfr_up hmm235 (zfr_rf [(28, 47)] _) hc0 rfl) rfl)
            have hRKNm235 := zR_KN_fr (zdis_fr (zfr_up hmm235 (zfr_rf [(28, 47)] _) hc0 rfl) rfl) hRKNm224
            have r237 : 0 ≤ (m235 a0 46) ∧ (m235 a0 46) ≤ 96 := zi_rd hIm235 hc0 zb_28_46
            have e238 : (m235 a0 46) = (zu_w32 ((m224 a0 46) - 1)) := (zs_eq hmm235)
            have b239 : 0 ≤ (m235 a0 46) ∧ (m235 a0 46) < 96 := by omega
            refine zw_if b239 ?_
            have r240 : 0 ≤ (m235 212 (m235 a0 46)) ∧ (m235 212 (m235 a0 46)) ≤ 63 := zi_rd hIm235 zq_212 (zb_121 _)
            refine zw_some ?_
            refine zw_bd (zw_eq (zu_call_at (zt_T n) (zm_111 n) (zdp_111 n) _ _ _ _ _ rfl (zr_111_0 n _ _ a0 m235)) ?_)
            have w241 := zu_w32_id (z := (m235 a0 46) - 1) (by omega) (by omega)
            generalize hmm242 : zu_up m235 a0 46 (zu_w32 ((m235 a0 46) - 1)) = m242
            have hIm242 := zi_up hmm242 hIm235 hc0 zb_28_46 (by omega) (by omega)
            have hFm242 := zfr_up hmm242 hFm235 hc0 rfl
            have hLm242 := zlot_i hmm242 hLm235 hc0 (by decide)
            have g243 := zwt_fr (zdis_fr (zfr_up hmm242 (zfr_rf [(28, 47)] _) hc0 rfl) rfl)
            have hRKNm242 := zR_KN_fr (zdis_fr (zfr_up hmm242 (zfr_rf [(28, 47)] _) hc0 rfl) rfl) hRKNm235
            have r244 : 0 ≤ (m242 a0 46) ∧ (m242 a0 46) ≤ 96 := zi_rd hIm242 hc0 zb_28_46
            have e245 : (m242 a0 46) = (zu_w32 ((m235 a0 46) - 1)) := (zs_eq hmm242)
            have b246 : 0 ≤ (m242 a0 46) ∧ (m242 a0 46) < 96 := by omega
            refine zw_if b246 ?_
            have r247 : 0 ≤ (m242 212 (m242 a0 46)) ∧ (m242 212 (m242 a0 46)) ≤ 63 := zi_rd hIm242 zq_212 (zb_121 _)
            refine zw_some ?_
            have r248 : 0 ≤ (m242 a0 21) ∧ (m242 a0 21) ≤ 64 := zi_rd hIm242 hc0 zb_28_21
            have e249 : (m242 a0 21) = (mh a0 21) := (Eq.trans (zs_ne hmm242 (Or.inr (by decide))) (Eq.trans (zs_ne hmm235 (Or.inr (by decide))) (zs_ne hmm224 (Or.inr (by decide)))))
            refine zw_bd (zw_mono (zk_110k n hIm242 hc0 ⟨by omega, by omega⟩ ⟨by omega, by omega⟩ ⟨by omega, by omega⟩ (by omega) (by omega) (by omega) (by omega) (by omega) hRKNm242) (fun v251 m250 hqm250 => ?_))
            obtain ⟨hIm250, hfm250, hlm250, hvm250⟩ := hqm250
            have hFm250 := zfr_tr hFm242 hfm250 rfl
            have hLm250 := zlot_go hLm242 hlm250
            obtain ⟨hRKNm250, hvm250⟩ := hvm250
            have g252 := zwt_fr (zdis_fr hfm250 rfl)
            have g253 := zwt_bd hIm250 hc0
            have r254 : 0 ≤ (m250 a0 45) ∧ (m250 a0 45) ≤ 96 := zi_rd hIm250 hc0 zb_28_45
            have e255 : (m250 a0 45) = (m224 a0 45) := (Eq.trans (zfr_ap hfm250 hc0 rfl) (Eq.trans (zs_ne hmm242 (Or.inr (by decide))) (zs_ne hmm235 (Or.inr (by decide)))))
            have hM : (m250 a0 45) * 1 + 0 < (k : Int) := by omega
            exact zw_le (zu_forget (zu_lr_same (zu_lr_same (zu_lr_drop (zu_lr_drop (zu_lr_drop zu_lr_nil)))))) (ih  m250 hIm250 hFm250 hLm250 ⟨by omega, by omega⟩ (by omega) (by omega) (by omega) (by omega) hRKNm250 hM)
          · exfalso; omega
set_option maxHeartbeats 4000000 in
theorem zk_112k (n : Nat) {a0 a1 : Int} {m0 : zu_m} (hIm0 : zi_I m0) (hc0 : zcls a0 = 28) (ha1 : 0 ≤ a1 ∧ a1 ≤ 6)   (hxp0 : (m0 a0 46) = zbi m0 + 1) (hxp1 : (m0 a0 21) + znz m0 ≤ 64) (hxp2 : 1 ≤ a1) (hRKNm0 : zR_KN m0) : zw (zu_call (zt_T n) 112 [(40, a0), (0, a1)] m0) (fun v m => zi_I m ∧ zfr [(28, 22), (28, 46), (28, 47), (117, 0), (118, 0), (119, 0), (121, 0)] m0 m ∧ zlot m0 m ∧ zR_KN m ∧ True ∧ ((m a0 21) + znz m = (m0 a0 21) + znz m0) ∧ ((m a0 46) - zbi m = (m0 a0 46) - zbi m0) ∧ ((m a0 45) - znz m = (m0 a0 45) - znz m0) ∧ ((m0 a0 21) ≤ (m a0 21)) ∧ (a1 = 1 → ((m a0 45) = 0 ∨ m 211 (zu_w32 ((m a0 45) - 1)) < 2))) := by
  have hFm0 : zfr [(28, 22), (28, 46), (28, 47), (117, 0), (118, 0), (119, 0), (121, 0)] m0 m0 := zfr_rf _ _
  have hLm0 : zlot m0 m0 := zlot_rf m0
  have r256 : 0 ≤ (m0 a0 21) ∧ (m0 a0 21) ≤ 64 := zi_rd hIm0 hc0 zb_28_21
  have r257 : 0 ≤ (m0 a0 46) ∧ (m0 a0 46) ≤ 96 := zi_rd hIm0 hc0 zb_28_46
  have r258 : 0 ≤ (m0 a0 45) ∧ (m0 a0 45) ≤ 96 := zi_rd hIm0 hc0 zb_28_45
  have g259 := zwt_bd hIm0 hc0
  show zw (zu_ex (zt_T n) 112 0 [(40, a0), (0, a1), (2, 0), (2, 0), (2, 0)] [] m0) _
  have hM : (m0 a0 45) * 1 + 0 < ((97 : Nat) : Int) := by omega
  exact (zl_112k n (m0 := m0) hc0 hxp0 hxp1 hxp2 97)  m0 hIm0 hFm0 hLm0 ⟨by omega, by omega⟩ (by omega) (by omega) (by omega) (by omega) hRKNm0 hM
set_option maxHeartbeats 4000000 in
theorem zk_116k (n : Nat) {a0 : Int} {m0 : zu_m} (hIm0 : zi_I m0) (hc0 : zcls a0 = 28)   (he0 : 1 ≤ m0 a0 49 ∧ m0 a0 49 ≤ 1) (hxp0 : (m0 a0 21) + znz m0 = (m0 a0 48)) (hxp1 : (m0 a0 45) = znz m0 + (m0 a0 47)) (hxp2 : (m0 a0 46) = zbi m0) (hxp3 : (m0 a0 49) = 1) (hRKNm0 : zR_KN m0) (hRNSm0 : zR_NS m0) (hRTRm0 : zR_TR m0) (hRWDm0 : zR_WD m0) : zw (zu_call (zt_T n) 116 [(40, a0)] m0) (fun v m => zi_I m ∧ zfr [(28, 5), (28, 6), (28, 8), (28, 9), (28, 10), (28, 11), (28, 22), (28, 46), (28, 47), (28, 48), (28, 49), (28, 50), (28, 51), (117, 0), (118, 0), (119, 0), (120, 0), (121, 0)] m0 m ∧ zlot m0 m ∧ zR_KN m ∧ zR_NS m ∧ zR_TR m ∧ zR_WD m ∧ (0 ≤ v ∧ v ≤ 1) ∧ ((m0 a0 7) ≤ (m a0 7)) ∧ (v = 1 → ((m0 a0 8) ≠ 0 ∧ ((m a0 8) = 0 ∨ (m0 a0 7) < (m a0 7)))) ∧ (v = 1 → (m a0 21) + znz m = (m a0 48)) ∧ (v = 1 → (m a0 46) + (m a0 49) = zbi m + 1) ∧ (v = 1 → (m a0 45) = znz m + (m a0 47)) ∧ (v = 1 → ((m a0 49) = 0 → 1 ≤ (m a0 21))) ∧ (v = 1 → (m a0 4) = (m0 a0 4)) ∧ (v = 0 → (m a0 4) ≠ 0)) := by
  have hFm0 : zfr [(28, 5), (28, 6), (28, 8), (28, 9), (28, 10), (28, 11), (28, 22), (28, 46), (28, 47), (28, 48), (28, 49), (28, 50), (28, 51), (117, 0), (118, 0), (119, 0), (120, 0), (121, 0)] m0 m0 := zfr_rf _ _
  have hLm0 : zlot m0 m0 := zlot_rf m0
  have r1 : 0 ≤ (m0 a0 7) ∧ (m0 a0 7) ≤ 700 := zi_rd hIm0 hc0 zb_28_7
  have r2 : 0 ≤ (m0 a0 8) ∧ (m0 a0 8) ≤ 6 := zi_rd hIm0 hc0 zb_28_8
  have r3 : (-2147483648) ≤ (m0 a0 4) ∧ (m0 a0 4) ≤ 2147483647 := zi_rd hIm0 hc0 zb_28_4
  have r4 : 0 ≤ (m0 a0 21) ∧ (m0 a0 21) ≤ 64 := zi_rd hIm0 hc0 zb_28_21
  have r5 : 0 ≤ (m0 a0 48) ∧ (m0 a0 48) ≤ 64 := zi_rd hIm0 hc0 zb_28_48
  have r6 : 0 ≤ (m0 a0 45) ∧ (m0 a0 45) ≤ 96 := zi_rd hIm0 hc0 zb_28_45
  have r7 : 0 ≤ (m0 a0 47) ∧ (m0 a0 47) ≤ 8 := zi_rd hIm0 hc0 zb_28_47
  have r8 : 0 ≤ (m0 a0 46) ∧ (m0 a0 46) ≤ 96 := zi_rd hIm0 hc0 zb_28_46
  have g9 := zwt_bd hIm0 hc0
  have s10 := hRNSm0 a0 hc0
  refine zw_eq (zu_call_at (zt_T n) (zm_116 n) (zdp_116 n) _ _ _ _ _ rfl (zr_116_0 n _ _ a0 m0)) ?_
  refine zw_bd (zw_eq (zu_call_at (zt_T n) (zm_93 n) (zdp_93 n) _ _ _ _ _ rfl (zr_93_0 n _ _ a0 40 m0)) ?_)
  refine zw_ite (fun h11 => ?_) (fun h11 => ?_)
  · refine zw_b (by omega) ?_
    refine zw_some ?_
    refine zw_ite (fun h12 => ?_) (fun h12 => ?_)
    · refine zw_bd (zw_eq (zu_call_at (zt_T n) (zm_92 n) (zdp_92 n) _ _ _ _ _ rfl (zr_92_0 n _ _ a0 25 m0)) ?_)
      refine zw_ite (fun h13 => ?_) (fun h13 => ?_)
      · refine zw_b (by omega) ?_
        refine zw_some ?_
        refine zw_ite (fun h15 => ?_) (fun h15 => ?_)
        · refine zw_bd (zw_eq (zu_call_at (zt_T n) (zm_115 n) (zdp_115 n) _ _ _ _ _ rfl (zr_115_0 n _ _ a0 m0)) ?_)
          refine zw_ite (fun h16 => ?_) (fun h16 => ?_)
          · refine zw_some ?_
            refine zw_ite (fun h17 => ?_) (fun h17 => ?_)
            · exfalso; omega
            · refine zw_ite (fun h18 => ?_) (fun h18 => ?_)
              · have s19 := (hRTRm0 a0 hc0).2.2 (by omega)
                refine zw_ite (fun h20 => ?_) (fun h20 => ?_)
                · exfalso; omega
                · refine zw_ite (fun h21 => ?_) (fun h21 => ?_)
                  · refine zw_bd (zw_eq (zu_call_at (zt_T n) (zm_113 n) (zdp_113 n) _ _ _ _ _ rfl (zr_113_0 n _ _ a0 m0)) ?_)
                    refine zw_ite (fun h22 => ?_) (fun h22 => ?_)
                    · have w23 := zu_w32_id (z := (m0 a0 48) + 1) (by omega) (by omega)
                      generalize hmm24 : zu_up m0 a0 48 (zu_w32 ((m0 a0 48) + 1)) = m24
                      have hIm24 := zi_up hmm24 hIm0 hc0 zb_28_48 (by omega) (by omega)
                      have hFm24 := zfr_up hmm24 hFm0 hc0 rfl
                      have hLm24 := zlot_i hmm24 hLm0 hc0 (by decide)
                      have g25 := zwt_fr (zdis_fr (zfr_up hmm24 (zfr_rf [(28, 49)] _) hc0 rfl) rfl)
                      have hRKNm24 := zR_KN_fr (zdis_fr (zfr_up hmm24 (zfr_rf [(28, 49)] _) hc0 rfl) rfl) hRKNm0
                      have hRNSm24 := zR_NS_fr (zdis_fr (zfr_up hmm24 (zfr_rf [(28, 49)] _) hc0 rfl) rfl) hRNSm0
                      have hRTRm24 := zR_TR_fr (zdis_fr (zfr_up hmm24 (zfr_rf [(28, 49)] _) hc0 rfl) rfl) hRTRm0
                      have hRWDm24 := zR_WD_fr (zdis_fr (zfr_up hmm24 (zfr_rf [(28, 49)] _) hc0 rfl) rfl) hRWDm0
                      refine zw_b (by omega) ?_
                      refine zw_some ?_
                      refine zw_ite (fun h26 => ?_) (fun h26 => ?_)
                      · refine zw_ite (fun h27 => ?_) (fun h27 => ?_)
                        · refine zw_ite (fun h28 => ?_) (fun h28 => ?_)
                          · have r29 : (-2147483648) ≤ (m24 a0 9) ∧ (m24 a0 9) ≤ 2147483647 := zi_rd hIm24 hc0 zb_28_9
                            have e30 : (m24 a0 9) = (m0 a0 9) := (zs_ne hmm24 (Or.inr (by decide)))
                            have r31 : 0 ≤ (m24 a0 21) ∧ (m24 a0 21) ≤ 64 := zi_rd hIm24 hc0 zb_28_21
                            have e32 : (m24 a0 21) = (m0 a0 21) := (zs_ne hmm24 (Or.inr (by decide)))
                            have r33 : 0 ≤ (m24 a0 46) ∧ (m24 a0 46) ≤ 96 := zi_rd hIm24 hc0 zb_28_46
                            have e34 : (m24 a0 46) = (m0 a0 46) := (zs_ne hmm24 (Or.inr (by decide)))
                            refine zw_bd (zw_mono (zk_110k n hIm24 hc0 ⟨by decide, by decide⟩ ⟨by omega, by omega⟩ ⟨by decide, by decide⟩ (by omega) (by omega) (by omega) (by omega) (by omega) hRKNm24) (fun v36 m35 hqm35 => ?_))
                            obtain ⟨hIm35, hfm35, hlm35, hvm35⟩ := hqm35
                            have hFm35 := zfr_tr hFm24 hfm35 rfl
                            have hLm35 := zlot_go hLm24 hlm35
                            obtain ⟨hRKNm35, hvm35⟩ := hvm35
                            have g37 := zwt_fr (zdis_fr hfm35 rfl)
                            have hRNSm35 := zR_NS_fr (zdis_fr hfm35 rfl) hRNSm24
                            have hRTRm35 := zR_TR_fr (zdis_fr hfm35 rfl) hRTRm24
                            have hRWDm35 := zR_WD_fr (zdis_fr hfm35 rfl) hRWDm24
                            have g38 := zwt_bd hIm35 hc0
                            have s39 := hRNSm35 a0 hc0
                            refine zw_b (by omega) ?_
                            generalize hmm40 : zu_up m35 a0 49 0 = m40
                            have hIm40 := zi_up hmm40 hIm35 hc0 zb_28_49 (by omega) (by omega)
                            have hFm40 := zfr_up hmm40 hFm35 hc0 rfl
                            have hLm40 := zlot_i hmm40 hLm35 hc0 (by decide)
                            have g41 := zwt_fr (zdis_fr (zfr_up hmm40 (zfr_rf [(28, 50)] _) hc0 rfl) rfl)
                            have hRKNm40 := zR_KN_fr (zdis_fr (zfr_up hmm40 (zfr_rf [(28, 50)] _) hc0 rfl) rfl) hRKNm35
                            have hRNSm40 := zR_NS_fr (zdis_fr (zfr_up hmm40 (zfr_rf [(28, 50)] _) hc0 rfl) rfl) hRNSm35
                            have hRTRm40 := zR_TR_fr (zdis_fr (zfr_up hmm40 (zfr_rf [(28, 50)] _) hc0 rfl) rfl) hRTRm35
                            have hRWDm40 := zR_WD_fr (zdis_fr (zfr_up hmm40 (zfr_rf [(28, 50)] _) hc0 rfl) rfl) hRWDm35
                            have r44 : 0 ≤ (m40 a0 7) ∧ (m40 a0 7) ≤ 700 := zi_rd hIm40 hc0 zb_28_7
                            have e45 : (m40 a0 7) = (m0 a0 7) := (Eq.trans (zs_ne hmm40 (Or.inr (by decide))) (Eq.trans (zfr_ap hfm35 hc0 rfl) (zs_ne hmm24 (Or.inr (by decide)))))
                            refine zw_bd (zw_mono (zk_89 n hIm40 hc0 hRNSm40 hRWDm40) (fun v43 m42 hqm42 => ?_))
                            obtain ⟨hIm42, hfm42, hvm42⟩ := hqm42
                            have hFm42 := zfr_tr hFm40 hfm42 rfl
                            have hLm42 := zlot_go hLm40 (zlot_f hfm42 rfl)
                            obtain ⟨hRNSm42, hRTRm42, hRWDm42, hvm42⟩ := hvm42
                            have g46 := zwt_fr (zdis_fr hfm42 rfl)
                            have hRKNm42 := zR_KN_fr (zdis_fr hfm42 rfl) hRKNm40
                            have g47 := zwt_bd hIm42 hc0
                            have s48 := hRNSm42 a0 hc0
                            have r49 : 0 ≤ (m42 a0 7) ∧ (m42 a0 7) ≤ 700 := zi_rd hIm42 hc0 zb_28_7
                            have r50 : 0 ≤ (m42 a0 8) ∧ (m42 a0 8) ≤ 6 := zi_rd hIm42 hc0 zb_28_8
                            refine zw_b (by omega) ?_
                            have r51 : 0 ≤ (m42 a0 21) ∧ (m42 a0 21) ≤ 64 := zi_rd hIm42 hc0 zb_28_21
                            have e52 : (m42 a0 21) = (m35 a0 21) := (Eq.trans (zfr_ap hfm42 hc0 rfl) (zs_ne hmm40 (Or.inr (by decide))))
                            have r53 : 0 ≤ (m42 a0 48) ∧ (m42 a0 48) ≤ 64 := zi_rd hIm42 hc0 zb_28_48
                            have e54 : (m42 a0 48) = (zu_w32 ((m0 a0 48) + 1)) := (Eq.trans (zfr_ap hfm42 hc0 rfl) (Eq.trans (zs_ne hmm40 (Or.inr (by decide))) (Eq.trans (zfr_ap hfm35 hc0 rfl) (zs_eq hmm24))))
                            have r55 : 0 ≤ (m42 a0 46) ∧ (m42 a0 46) ≤ 96 := zi_rd hIm42 hc0 zb_28_46
                            have e56 : (m42 a0 46) = (m35 a0 46) := (Eq.trans (zfr_ap hfm42 hc0 rfl) (zs_ne hmm40 (Or.inr (by decide))))
                            have r57 : 0 ≤ (m42 a0 49) ∧ (m42 a0 49) ≤ 1 := zi_rd hIm42 hc0 zb_28_49
                            have e58 : (m42 a0 49) = 0 := (Eq.trans (zfr_ap hfm42 hc0 rfl) (zs_eq hmm40))
                            have r59 : 0 ≤ (m42 a0 45) ∧ (m42 a0 45) ≤ 96 := zi_rd hIm42 hc0 zb_28_45
                            have e60 : (m42 a0 45) = (m0 a0 45) := (Eq.trans (zfr_ap hfm42 hc0 rfl) (Eq.trans (zs_ne hmm40 (Or.inr (by decide))) (Eq.trans (zfr_ap hfm35 hc0 rfl) (zs_ne hmm24 (Or.inr (by decide))))))
                            have r61 : 0 ≤ (m42 a0 47) ∧ (m42 a0 47) ≤ 8 := zi_rd hIm42 hc0 zb_28_47
                            have e62 : (m42 a0 47) = (m0 a0 47) := (Eq.trans (zfr_ap hfm42 hc0 rfl) (Eq.trans (zs_ne hmm40 (Or.inr (by decide))) (Eq.trans (zfr_ap hfm35 hc0 rfl) (zs_ne hmm24 (Or.inr (by decide))))))
                            have r63 : (-2147483648) ≤ (m42 a0 4) ∧ (m42 a0 4) ≤ 2147483647 := zi_rd hIm42 hc0 zb_28_4
                            have e64 : (m42 a0 4) = (m0 a0 4) := (Eq.trans (zfr_ap hfm42 hc0 rfl) (Eq.trans (zs_ne hmm40 (Or.inr (by decide))) (Eq.trans (zfr_ap hfm35 hc0 rfl) (zs_ne hmm24 (Or.inr (by decide))))))
                            exact zw_some ⟨hIm42, hFm42, hLm42, hRKNm42, hRNSm42, hRTRm42, hRWDm42, ⟨by decide, by decide⟩, by omega, fun _ => by omega, fun _ => by omega, fun _ => by omega, fun _ => by omega, fun _ => by omega, fun _ => by omega, fun h => absurd h (by decide)⟩
                          · exfalso; omega
                        · exfalso; omega
                      · exfalso; omega
                    · refine zw_bd (zw_eq (zu_call_at (zt_T n) (zm_85 n) (zdp_85 n) _ _ _ _ _ rfl (zr_85_0 n _ _ a0 2 m0)) ?_)
                      generalize hmm65 : zu_up m0 a0 4 2 = m65
                      have hIm65 := zi_up hmm65 hIm0 hc0 zb_28_4 (by omega) (by omega)
                      have hFm65 := zfr_up hmm65 hFm0 hc0 rfl
                      have hLm65 := zlot_i hmm65 hLm0 hc0 (by decide)
                      have g66 := zwt_fr (zdis_fr (zfr_up hmm65 (zfr_rf [(28, 5)] _) hc0 rfl) rfl)
                      have hRKNm65 := zR_KN_fr (zdis_fr (zfr_up hmm65 (zfr_rf [(28, 5)] _) hc0 rfl) rfl) hRKNm0
                      have hRNSm65 := zR_NS_fr (zdis_fr (zfr_up hmm65 (zfr_rf [(28, 5)] _) hc0 rfl) rfl) hRNSm0
                      have hRTRm65 := zR_TR_fr (zdis_fr (zfr_up hmm65 (zfr_rf [(28, 5)] _) hc0 rfl) rfl) hRTRm0
                      have hRWDm65 := zR_WD_fr (zdis_fr (zfr_up hmm65 (zfr_rf [(28, 5)] _) hc0 rfl) rfl) hRWDm0
                      have hRLRm65 := zLR_wr (zone_190 hc0) hmm65 (by decide)
                      have r67 : 0 ≤ (m65 a0 10) ∧ (m65 a0 10) ≤ 700 := zi_rd hIm65 hc0 zb_28_10
                      generalize hmm68 : zu_up m65 a0 5 (m65 a0 10) = m68
                      have hIm68 := zi_up hmm68 hIm65 hc0 zb_28_5 (by omega) (by omega)
                      have hFm68 := zfr_up hmm68 hFm65 hc0 rfl
                      have hLm68 := zlot_i hmm68 hLm65 hc0 (by decide)
                      have g69 := zwt_fr (zdis_fr (zfr_up hmm68 (zfr_rf [(28, 6)] _) hc0 rfl) rfl)
                      have hRKNm68 := zR_KN_fr (zdis_fr (zfr_up hmm68 (zfr_rf [(28, 6)] _) hc0 rfl) rfl) hRKNm65
                      have hRLRm68 := zR_LR_fr (zdis_fr (zfr_up hmm68 (zfr_rf [(28, 6)] _) hc0 rfl) rfl) hRLRm65
                      have hRNSm68 := zR_NS_fr (zdis_fr (zfr_up hmm68 (zfr_rf [(28, 6)] _) hc0 rfl) rfl) hRNSm65
                      have hRTRm68 := zR_TR_fr (zdis_fr (zfr_up hmm68 (zfr_rf [(28, 6)] _) hc0 rfl) rfl) hRTRm65
                      have hRWDm68 := zR_WD_fr (zdis_fr (zfr_up hmm68 (zfr_rf [(28, 6)] _) hc0 rfl) rfl) hRWDm65
                      refine zw_b (by omega) ?_
                      refine zw_some ?_
                      refine zw_b (by omega) ?_
                      refine zw_some ?_
                      refine zw_ite (fun h70 => ?_) (fun h70 => ?_)
                      · exfalso; omega
                      · refine zw_b (by omega) ?_
                        have r71 : 0 ≤ (m68 a0 7) ∧ (m68 a0 7) ≤ 700 := zi_rd hIm68 hc0 zb_28_7
                        have e72 : (m68 a0 7) = (m0 a0 7) := (Eq.trans (zs_ne hmm68 (Or.inr (by decide))) (zs_ne hmm65 (Or.inr (by decide))))
                        have r73 : 0 ≤ (m68 a0 8) ∧ (m68 a0 8) ≤ 6 := zi_rd hIm68 hc0 zb_28_8
                        have e74 : (m68 a0 8) = (m0 a0 8) := (Eq.trans (zs_ne hmm68 (Or.inr (by decide))) (zs_ne hmm65 (Or.inr (by decide))))
                        have r75 : 0 ≤ (m68 a0 21) ∧ (m68 a0 21) ≤ 64 := zi_rd hIm68 hc0 zb_28_21
                        have e76 : (m68 a0 21) = (m0 a0 21) := (Eq.trans (zs_ne hmm68 (Or.inr (by decide))) (zs_ne hmm65 (Or.inr (by decide))))
                        have r77 : 0 ≤ (m68 a0 48) ∧ (m68 a0 48) ≤ 64 := zi_rd hIm68 hc0 zb_28_48
                        have e78 : (m68 a0 48) = (m0 a0 48) := (Eq.trans (zs_ne hmm68 (Or.inr (by decide))) (zs_ne hmm65 (Or.inr (by decide))))
                        have r79 : 0 ≤ (m68 a0 46) ∧ (m68 a0 46) ≤ 96 := zi_rd hIm68 hc0 zb_28_46
                        have e80 : (m68 a0 46) = (m0 a0 46) := (Eq.trans (zs_ne hmm68 (Or.inr (by decide))) (zs_ne hmm65 (Or.inr (by decide))))
                        have r81 : 0 ≤ (m68 a0 49) ∧ (m68 a0 49) ≤ 1 := zi_rd hIm68 hc0 zb_28_49
                        have e82 : (m68 a0 49) = (m0 a0 49) := (Eq.trans (zs_ne hmm68 (Or.inr (by decide))) (zs_ne hmm65 (Or.inr (by decide))))
                        have r83 : 0 ≤ (m68 a0 45) ∧ (m68 a0 45) ≤ 96 := zi_rd hIm68 hc0 zb_28_45
                        have e84 : (m68 a0 45) = (m0 a0 45) := (Eq.trans (zs_ne hmm68 (Or.inr (by decide))) (zs_ne hmm65 (Or.inr (by decide))))
                        have r85 : 0 ≤ (m68 a0 47) ∧ (m68 a0 47) ≤ 8 := zi_rd hIm68 hc0 zb_28_47
                        have e86 : (m68 a0 47) = (m0 a0 47) := (Eq.trans (zs_ne hmm68 (Or.inr (by decide))) (zs_ne hmm65 (Or.inr (by decide))))
                        have r87 : (-2147483648) ≤ (m68 a0 4) ∧ (m68 a0 4) ≤ 2147483647 := zi_rd hIm68 hc0 zb_28_4
                        have e88 : (m68 a0 4) = 2 := (Eq.trans (zs_ne hmm68 (Or.inr (by decide))) (zs_eq hmm65))
                        exact zw_some ⟨hIm68, hFm68, hLm68, hRKNm68, hRNSm68, hRTRm68, hRWDm68, ⟨by decide, by decide⟩, by omega, fun h => absurd h (by decide), fun h => absurd h (by decide), fun h => absurd h (by decide), fun h => absurd h (by decide), fun h => absurd h (by decide), fun h => absurd h (by decide), fun _ => by omega⟩
                  · refine zw_bd (zw_eq (zu_call_at (zt_T n) (zm_85 n) (zdp_85 n) _ _ _ _ _ rfl (zr_85_0 n _ _ a0 2 m0)) ?_)
                    generalize hmm89 : zu_up m0 a0 4 2 = m89
                    have hIm89 := zi_up hmm89 hIm0 hc0 zb_28_4 (by omega) (by omega)
                    have hFm89 := zfr_up hmm89 hFm0 hc0 rfl
                    have hLm89 := zlot_i hmm89 hLm0 hc0 (by decide)
                    have g90 := zwt_fr (zdis_fr (zfr_up hmm89 (zfr_rf [(28, 5)] _) hc0 rfl) rfl)
                    have hRKNm89 := zR_KN_fr (zdis_fr (zfr_up hmm89 (zfr_rf [(28, 5)] _) hc0 rfl) rfl) hRKNm0
                    have hRNSm89 := zR_NS_fr (zdis_fr (zfr_up hmm89 (zfr_rf [(28, 5)] _) hc0 rfl) rfl) hRNSm0
                    have hRTRm89 := zR_TR_fr (zdis_fr (zfr_up hmm89 (zfr_rf [(28, 5)] _) hc0 rfl) rfl) hRTRm0
                    have hRWDm89 := zR_WD_fr (zdis_fr (zfr_up hmm89 (zfr_rf [(28, 5)] _) hc0 rfl) rfl) hRWDm0
                    have hRLRm89 := zLR_wr (zone_190 hc0) hmm89 (by decide)
                    have r91 : 0 ≤ (m89 a0 10) ∧ (m89 a0 10) ≤ 700 := zi_rd hIm89 hc0 zb_28_10
                    generalize hmm92 : zu_up m89 a0 5 (m89 a0 10) = m92
                    have hIm92 := zi_up hmm92 hIm89 hc0 zb_28_5 (by omega) (by omega)
                    have hFm92 := zfr_up hmm92 hFm89 hc0 rfl
                    have hLm92 := zlot_i hmm92 hLm89 hc0 (by decide)
                    have g93 := zwt_fr (zdis_fr (zfr_up hmm92 (zfr_rf [(28, 6)] _) hc0 rfl) rfl)
                    have hRKNm92 := zR_KN_fr (zdis_fr (zfr_up hmm92 (zfr_rf [(28, 6)] _) hc0 rfl) rfl) hRKNm89
                    have hRLRm92 := zR_LR_fr (zdis_fr (zfr_up hmm92 (zfr_rf [(28, 6)] _) hc0 rfl) rfl) hRLRm89
                    have hRNSm92 := zR_NS_fr (zdis_fr (zfr_up hmm92 (zfr_rf [(28, 6)] _) hc0 rfl) rfl) hRNSm89
                    have hRTRm92 := zR_TR_fr (zdis_fr (zfr_up hmm92 (zfr_rf [(28, 6)] _) hc0 rfl) rfl) hRTRm89
                    have hRWDm92 := zR_WD_fr (zdis_fr (zfr_up hmm92 (zfr_rf [(28, 6)] _) hc0 rfl) rfl) hRWDm89
                    refine zw_b (by omega) ?_
                    refine zw_some ?_
                    refine zw_b (by omega) ?_
                    have r94 : 0 ≤ (m92 a0 7) ∧ (m92 a0 7) ≤ 700 := zi_rd hIm92 hc0 zb_28_7
                    have e95 : (m92 a0 7) = (m0 a0 7) := (Eq.trans (zs_ne hmm92 (Or.inr (by decide))) (zs_ne hmm89 (Or.inr (by decide))))
                    have r96 : 0 ≤ (m92 a0 8) ∧ (m92 a0 8) ≤ 6 := zi_rd hIm92 hc0 zb_28_8
                    have e97 : (m92 a0 8) = (m0 a0 8) := (Eq.trans (zs_ne hmm92 (Or.inr (by decide))) (zs_ne hmm89 (Or.inr (by decide))))
                    have r98 : 0 ≤ (m92 a0 21) ∧ (m92 a0 21) ≤ 64 := zi_rd hIm92 hc0 zb_28_21
                    have e99 : (m92 a0 21) = (m0 a0 21) := (Eq.trans (zs_ne hmm92 (Or.inr (by decide))) (zs_ne hmm89 (Or.inr (by decide))))
                    have r100 : 0 ≤ (m92 a0 48) ∧ (m92 a0 48) ≤ 64 := zi_rd hIm92 hc0 zb_28_48
                    have e101 : (m92 a0 48) = (m0 a0 48) := (Eq.trans (zs_ne hmm92 (Or.inr (by decide))) (zs_ne hmm89 (Or.inr (by decide))))
                    have r102 : 0 ≤ (m92 a0 46) ∧ (m92 a0 46) ≤ 96 := zi_rd hIm92 hc0 zb_28_46
                    have e103 : (m92 a0 46) = (m0 a0 46) := (Eq.trans (zs_ne hmm92 (Or.inr (by decide))) (zs_ne hmm89 (Or.inr (by decide))))
                    have r104 : 0 ≤ (m92 a0 49) ∧ (m92 a0 49) ≤ 1 := zi_rd hIm92 hc0 zb_28_49
                    have e105 : (m92 a0 49) = (m0 a0 49) := (Eq.trans (zs_ne hmm92 (Or.inr (by decide))) (zs_ne hmm89 (Or.inr (by decide))))
                    have r106 : 0 ≤ (m92 a0 45) ∧ (m92 a0 45) ≤ 96 := zi_rd hIm92 hc0 zb_28_45
                    have e107 : (m92 a0 45) = (m0 a0 45) := (Eq.trans (zs_ne hmm92 (Or.inr (by decide))) (zs_ne hmm89 (Or.inr (by decide))))
                    have r108 : 0 ≤ (m92 a0 47) ∧ (m92 a0 47) ≤ 8 := zi_rd hIm92 hc0 zb_28_47
                    have e109 : (m92 a0 47) = (m0 a0 47) := (Eq.trans (zs_ne hmm92 (Or.inr (by decide))) (zs_ne hmm89 (Or.inr (by decide))))
                    have r110 : (-2147483648) ≤ (m92 a0 4) ∧ (m92 a0 4) ≤ 2147483647 := zi_rd hIm92 hc0 zb_28_4
                    have e111 : (m92 a0 4) = 2 := (Eq.trans (zs_ne hmm92 (Or.inr (by decide))) (zs_eq hmm89))
                    exact zw_some ⟨hIm92, hFm92, hLm92, hRKNm92, hRNSm92, hRTRm92, hRWDm92, ⟨by decide, by decide⟩, by omega, fun h => absurd h (by decide), fun h => absurd h (by decide), fun h => absurd h (by decide), fun h => absurd h (by decide), fun h => absurd h (by decide), fun h => absurd h (by decide), fun _ => by omega⟩
              · refine zw_bd (zw_eq (zu_call_at (zt_T n) (zm_85 n) (zdp_85 n) _ _ _ _ _ rfl (zr_85_0 n _ _ a0 1 m0)) ?_)
                generalize hmm112 : zu_up m0 a0 4 1 = m112
                have hIm112 := zi_up hmm112 hIm0 hc0 zb_28_4 (by omega) (by omega)
                have hFm112 := zfr_up hmm112 hFm0 hc0 rfl
                have hLm112 := zlot_i hmm112 hLm0 hc0 (by decide)
                have g113 := zwt_fr (zdis_fr (zfr_up hmm112 (zfr_rf [(28, 5)] _) hc0 rfl) rfl)
                have hRKNm112 := zR_KN_fr (zdis_fr (zfr_up hmm112 (zfr_rf [(28, 5)] _) hc0 rfl) rfl) hRKNm0
                have hRNSm112 := zR_NS_fr (zdis_fr (zfr_up hmm112 (zfr_rf [(28, 5)] _) hc0 rfl) rfl) hRNSm0
                have hRTRm112 := zR_TR_fr (zdis_fr (zfr_up hmm112 (zfr_rf [(28, 5)] _) hc0 rfl) rfl) hRTRm0
                have hRWDm112 := zR_WD_fr (zdis_fr (zfr_up hmm112 (zfr_rf [(28, 5)] _) hc0 rfl) rfl) hRWDm0
                have hRLRm112 := zLR_wr (zone_190 hc0) hmm112 (by decide)
                have r114 : 0 ≤ (m112 a0 10) ∧ (m112 a0 10) ≤ 700 := zi_rd hIm112 hc0 zb_28_10
                generalize hmm115 : zu_up m112 a0 5 (m112 a0 10) = m115
                have hIm115 := zi_up hmm115 hIm112 hc0 zb_28_5 (by omega) (by omega)
                have hFm115 := zfr_up hmm115 hFm112 hc0 rfl
                have hLm115 := zlot_i hmm115 hLm112 hc0 (by decide)
                have g116 := zwt_fr (zdis_fr (zfr_up hmm115 (zfr_rf [(28, 6)] _) hc0 rfl) rfl)
                have hRKNm115 := zR_KN_fr (zdis_fr (zfr_up hmm115 (zfr_rf [(28, 6)] _) hc0 rfl) rfl) hRKNm112
                have hRLRm115 := zR_LR_fr (zdis_fr (zfr_up hmm115 (zfr_rf [(28, 6)] _) hc0 rfl) rfl) hRLRm112
                have hRNSm115 := zR_NS_fr (zdis_fr (zfr_up hmm115 (zfr_rf [(28, 6)] _) hc0 rfl) rfl) hRNSm112
                have hRTRm115 := zR_TR_fr (zdis_fr (zfr_up hmm115 (zfr_rf [(28, 6)] _) hc0 rfl) rfl) hRTRm112
                have hRWDm115 := zR_WD_fr (zdis_fr (zfr_up hmm115 (zfr_rf [(28, 6)] _) hc0 rfl) rfl) hRWDm112
                refine zw_b (by omega) ?_
                refine zw_some ?_
                refine zw_b (by omega) ?_
                have r117 : 0 ≤ (m115 a0 7) ∧ (m115 a0 7) ≤ 700 := zi_rd hIm115 hc0 zb_28_7
                have e118 : (m115 a0 7) = (m0 a0 7) := (Eq.trans (zs_ne hmm115 (Or.inr (by decide))) (zs_ne hmm112 (Or.inr (by decide))))
                have r119 : 0 ≤ (m115 a0 8) ∧ (m115 a0 8) ≤ 6 := zi_rd hIm115 hc0 zb_28_8
                have e120 : (m115 a0 8) = (m0 a0 8) := (Eq.trans (zs_ne hmm115 (Or.inr (by decide))) (zs_ne hmm112 (Or.inr (by decide))))
                have r121 : 0 ≤ (m115 a0 21) ∧ (m115 a0 21) ≤ 64 := zi_rd hIm115 hc0 zb_28_21
                have e122 : (m115 a0 21) = (m0 a0 21) := (Eq.trans (zs_ne hmm115 (Or.inr (by decide))) (zs_ne hmm112 (Or.inr (by decide))))
                have r123 : 0 ≤ (m115 a0 48) ∧ (m115 a0 48) ≤ 64 := zi_rd hIm115 hc0 zb_28_48
                have e124 : (m115 a0 48) = (m0 a0 48) := (Eq.trans (zs_ne hmm115 (Or.inr (by decide))) (zs_ne hmm112 (Or.inr (by decide))))
                have r125 : 0 ≤ (m115 a0 46) ∧ (m115 a0 46) ≤ 96 := zi_rd hIm115 hc0 zb_28_46
                have e126 : (m115 a0 46) = (m0 a0 46) := (Eq.trans (zs_ne hmm115 (Or.inr (by decide))) (zs_ne hmm112 (Or.inr (by decide))))
                have r127 : 0 ≤ (m115 a0 49) ∧ (m115 a0 49) ≤ 1 := zi_rd hIm115 hc0 zb_28_49
                have e128 : (m115 a0 49) = (m0 a0 49) := (Eq.trans (zs_ne hmm115 (Or.inr (by decide))) (zs_ne hmm112 (Or.inr (by decide))))
                have r129 : 0 ≤ (m115 a0 45) ∧ (m115 a0 45) ≤ 96 := zi_rd hIm115 hc0 zb_28_45
                have e130 : (m115 a0 45) = (m0 a0 45) := (Eq.trans (zs_ne hmm115 (Or.inr (by decide))) (zs_ne hmm112 (Or.inr (by decide))))
                have r131 : 0 ≤ (m115 a0 47) ∧ (m115 a0 47) ≤ 8 := zi_rd hIm115 hc0 zb_28_47
                have e132 : (m115 a0 47) = (m0 a0 47) := (Eq.trans (zs_ne hmm115 (Or.inr (by decide))) (zs_ne hmm112 (Or.inr (by decide))))
                have r133 : (-2147483648) ≤ (m115 a0 4) ∧ (m115 a0 4) ≤ 2147483647 := zi_rd hIm115 hc0 zb_28_4
                have e134 : (m115 a0 4) = 1 := (Eq.trans (zs_ne hmm115 (Or.inr (by decide))) (zs_eq hmm112))
                exact zw_some ⟨hIm115, hFm115, hLm115, hRKNm115, hRNSm115, hRTRm115, hRWDm115, ⟨by decide, by decide⟩, by omega, fun h => absurd h (by decide), fun h => absurd h (by decide), fun h => absurd h (by decide), fun h => absurd h (by decide), fun h => absurd h (by decide), fun h => absurd h (by decide), fun _ => by omega⟩
          · exfalso; omega
        · exfalso; omega
      · have s14 := (hRTRm0 a0 hc0).2.1 (by omega)
        refine zw_ite (fun h135 => ?_) (fun h135 => ?_)
        · refine zw_b (by omega) ?_
          refine zw_some ?_
          refine zw_ite (fun h136 => ?_) (fun h136 => ?_)
          · refine zw_bd (zw_eq (zu_call_at (zt_T n) (zm_115 n) (zdp_115 n) _ _ _ _ _ rfl (zr_115_0 n _ _ a0 m0)) ?_)
            refine zw_ite (fun h137 => ?_) (fun h137 => ?_)
            · exfalso; omega
            · have s138 := (hRTRm0 a0 hc0).2.1 (by omega)
              refine zw_ite (fun h139 => ?_) (fun h139 => ?_)
              · refine zw_some ?_
                refine zw_ite (fun h140 => ?_) (fun h140 => ?_)
                · exfalso; omega
                · refine zw_ite (fun h141 => ?_) (fun h141 => ?_)
                  · exfalso; omega
                  · have s142 := (hRTRm0 a0 hc0).2.1 (by omega)
                    refine zw_bd (zw_eq (zu_call_at (zt_T n) (zm_85 n) (zdp_85 n) _ _ _ _ _ rfl (zr_85_0 n _ _ a0 1 m0)) ?_)
                    generalize hmm143 : zu_up m0 a0 4 1 = m143
                    have hIm143 := zi_up hmm143 hIm0 hc0 zb_28_4 (by omega) (by omega)
                    have hFm143 := zfr_up hmm143 hFm0 hc0 rfl
                    have hLm143 := zlot_i hmm143 hLm0 hc0 (by decide)
                    have g144 := zwt_fr (zdis_fr (zfr_up hmm143 (zfr_rf [(28, 5)] _) hc0 rfl) rfl)
                    have hRKNm143 := zR_KN_fr (zdis_fr (zfr_up hmm143 (zfr_rf [(28, 5)] _) hc0 rfl) rfl) hRKNm0
                    have hRNSm143 := zR_NS_fr (zdis_fr (zfr_up hmm143 (zfr_rf [(28, 5)] _) hc0 rfl) rfl) hRNSm0
                    have hRTRm143 := zR_TR_fr (zdis_fr (zfr_up hmm143 (zfr_rf [(28, 5)] _) hc0 rfl) rfl) hRTRm0
                    have hRWDm143 := zR_WD_fr (zdis_fr (zfr_up hmm143 (zfr_rf [(28, 5)] _) hc0 rfl) rfl) hRWDm0
                    have hRLRm143 := zLR_wr (zone_190 hc0) hmm143 (by decide)
                    have r145 : 0 ≤ (m143 a0 10) ∧ (m143 a0 10) ≤ 700 := zi_rd hIm143 hc0 zb_28_10
                    generalize hmm146 : zu_up m143 a0 5 (m143 a0 10) = m146
                    have hIm146 := zi_up hmm146 hIm143 hc0 zb_28_5 (by omega) (by omega)
                    have hFm146 := zfr_up hmm146 hFm143 hc0 rfl
                    have hLm146 := zlot_i hmm146 hLm143 hc0 (by decide)
                    have g147 := zwt_fr (zdis_fr (zfr_up hmm146 (zfr_rf [(28, 6)] _) hc0 rfl) rfl)
                    have hRKNm146 := zR_KN_fr (zdis_fr (zfr_up hmm146 (zfr_rf [(28, 6)] _) hc0 rfl) rfl) hRKNm143
                    have hRLRm146 := zR_LR_fr (zdis_fr (zfr_up hmm146 (zfr_rf [(28, 6)] _) hc0 rfl) rfl) hRLRm143
                    have hRNSm146 := zR_NS_fr (zdis_fr (zfr_up hmm146 (zfr_rf [(28, 6)] _) hc0 rfl) rfl) hRNSm143
                    have hRTRm146 := zR_TR_fr (zdis_fr (zfr_up hmm146 (zfr_rf [(28, 6)] _) hc0 rfl) rfl) hRTRm143
                    have hRWDm146 := zR_WD_fr (zdis_fr (zfr_up hmm146 (zfr_rf [(28, 6)] _) hc0 rfl) rfl) hRWDm143
                    refine zw_b (by omega) ?_
                    refine zw_some ?_
                    refine zw_b (by omega) ?_
                    have r148 : 0 ≤ (m146 a0 7) ∧ (m146 a0 7) ≤ 700 := zi_rd hIm146 hc0 zb_28_7
                    have e149 : (m146 a0 7) = (m0 a0 7) := (Eq.trans (zs_ne hmm146 (Or.inr (by decide))) (zs_ne hmm143 (Or.inr (by decide))))
                    have r150 : 0 ≤ (m146 a0 8) ∧ (m146 a0 8) ≤ 6 := zi_rd hIm146 hc0 zb_28_8
                    have e151 : (m146 a0 8) = (m0 a0 8) := (Eq.trans (zs_ne hmm146 (Or.inr (by decide))) (zs_ne hmm143 (Or.inr (by decide))))
                    have r152 : 0 ≤ (m146 a0 21) ∧ (m146 a0 21) ≤ 64 := zi_rd hIm146 hc0 zb_28_21
                    have e153 : (m146 a0 21) = (m0 a0 21) := (Eq.trans (zs_ne hmm146 (Or.inr (by decide))) (zs_ne hmm143 (Or.inr (by decide))))
                    have r154 : 0 ≤ (m146 a0 48) ∧ (m146 a0 48) ≤ 64 := zi_rd hIm146 hc0 zb_28_48
                    have e155 : (m146 a0 48) = (m0 a0 48) := (Eq.trans (zs_ne hmm146 (Or.inr (by decide))) (zs_ne hmm143 (Or.inr (by decide))))
                    have r156 : 0 ≤ (m146 a0 46) ∧ (m146 a0 46) ≤ 96 := zi_rd hIm146 hc0 zb_28_46
                    have e157 : (m146 a0 46) = (m0 a0 46) := (Eq.trans (zs_ne hmm146 (Or.inr (by decide))) (zs_ne hmm143 (Or.inr (by decide))))
                    have r158 : 0 ≤ (m146 a0 49) ∧ (m146 a0 49) ≤ 1 := zi_rd hIm146 hc0 zb_28_49
                    have e159 : (m146 a0 49) = (m0 a0 49) := (Eq.trans (zs_ne hmm146 (Or.inr (by decide))) (zs_ne hmm143 (Or.inr (by decide))))
                    have r160 : 0 ≤ (m146 a0 45) ∧ (m146 a0 45) ≤ 96 := zi_rd hIm146 hc0 zb_28_45
                    have e161 : (m146 a0 45) = (m0 a0 45) := (Eq.trans (zs_ne hmm146 (Or.inr (by decide))) (zs_ne hmm143 (Or.inr (by decide))))
                    have r162 : 0 ≤ (m146 a0 47) ∧ (m146 a0 47) ≤ 8 := zi_rd hIm146 hc0 zb_28_47
                    have e163 : (m146 a0 47) = (m0 a0 47) := (Eq.trans (zs_ne hmm146 (Or.inr (by decide))) (zs_ne hmm143 (Or.inr (by decide))))
                    have r164 : (-2147483648) ≤ (m146 a0 4) ∧ (m146 a0 4) ≤ 2147483647 := zi_rd hIm146 hc0 zb_28_4
                    have e165 : (m146 a0 4) = 1 := (Eq.trans (zs_ne hmm146 (Or.inr (by decide))) (zs_eq hmm143))
                    exact zw_some ⟨hIm146, hFm146, hLm146, hRKNm146, hRNSm146, hRTRm146, hRWDm146, ⟨by decide, by decide⟩, by omega, fun h => absurd h (by decide), fun h => absurd h (by decide), fun h => absurd h (by decide), fun h => absurd h (by decide), fun h => absurd h (by decide), fun h => absurd h (by decide), fun _ => by omega⟩
              · have w166 := zu_w32_id (z := (m0 a0 9) - 26) (by omega) (by omega)
                refine zw_some ?_
                refine zw_ite (fun h167 => ?_) (fun h167 => ?_)
                · refine zw_ite (fun h168 => ?_) (fun h168 => ?_)
                  · refine zw_bd (zw_eq (zu_call_at (zt_T n) (zm_113 n) (zdp_113 n) _ _ _ _ _ rfl (zr_113_0 n _ _ a0 m0)) ?_)
                    refine zw_ite (fun h169 => ?_) (fun h169 => ?_)
                    · have w170 := zu_w32_id (z := (m0 a0 48) + 1) (by omega) (by omega)
                      generalize hmm171 : zu_up m0 a0 48 (zu_w32 ((m0 a0 48) + 1)) = m171
                      have hIm171 := zi_up hmm171 hIm0 hc0 zb_28_48 (by omega) (by omega)
                      have hFm171 := zfr_up hmm171 hFm0 hc0 rfl
                      have hLm171 := zlot_i hmm171 hLm0 hc0 (by decide)
                      have g172 := zwt_fr (zdis_fr (zfr_up hmm171 (zfr_rf [(28, 49)] _) hc0 rfl) rfl)
                      have hRKNm171 := zR_KN_fr (zdis_fr (zfr_up hmm171 (zfr_rf [(28, 49)] _) hc0 rfl) rfl) hRKNm0
                      have hRNSm171 := zR_NS_fr (zdis_fr (zfr_up hmm171 (zfr_rf [(28, 49)] _) hc0 rfl) rfl) hRNSm0
                      have hRTRm171 := zR_TR_fr (zdis_fr (zfr_up hmm171 (zfr_rf [(28, 49)] _) hc0 rfl) rfl) hRTRm0
                      have hRWDm171 := zR_WD_fr (zdis_fr (zfr_up hmm171 (zfr_rf [(28, 49)] _) hc0 rfl) rfl) hRWDm0
                      refine zw_b (by omega) ?_
                      refine zw_some ?_
                      refine zw_ite (fun h173 => ?_) (fun h173 => ?_)
                      · refine zw_ite (fun h174 => ?_) (fun h174 => ?_)
                        · exfalso; omega
                        · refine zw_ite (fun h175 => ?_) (fun h175 => ?_)
                          · exfalso; omega
                          · have r176 : 0 ≤ (m171 a0 21) ∧ (m171 a0 21) ≤ 64 := zi_rd hIm171 hc0 zb_28_21
                            have e177 : (m171 a0 21) = (m0 a0 21) := (zs_ne hmm171 (Or.inr (by decide)))
                            have r178 : 0 ≤ (m171 a0 46) ∧ (m171 a0 46) ≤ 96 := zi_rd hIm171 hc0 zb_28_46
                            have e179 : (m171 a0 46) = (m0 a0 46) := (zs_ne hmm171 (Or.inr (by decide)))
                            refine zw_bd (zw_mono (zk_110k n hIm171 hc0 ⟨by decide, by decide⟩ ⟨by omega, by omega⟩ ⟨by decide, by decide⟩ (by omega) (by omega) (by omega) (by omega) (by omega) hRKNm171) (fun v181 m180 hqm180 => ?_))
                            obtain ⟨hIm180, hfm180, hlm180, hvm180⟩ := hqm180
                            have hFm180 := zfr_tr hFm171 hfm180 rfl
                            have hLm180 := zlot_go hLm171 hlm180
                            obtain ⟨hRKNm180, hvm180⟩ := hvm180
                            have g182 := zwt_fr (zdis_fr hfm180 rfl)
                            have hRNSm180 := zR_NS_fr (zdis_fr hfm180 rfl) hRNSm171
                            have hRTRm180 := zR_TR_fr (zdis_fr hfm180 rfl) hRTRm171
                            have hRWDm180 := zR_WD_fr (zdis_fr hfm180 rfl) hRWDm171
                            have g183 := zwt_bd hIm180 hc0
                            have s184 := hRNSm180 a0 hc0
                            refine zw_b (by omega) ?_
                            generalize hmm185 : zu_up m180 a0 49 0 = m185
                            have hIm185 := zi_up hmm185 hIm180 hc0 zb_28_49 (by omega) (by omega)
                            have hFm185 := zfr_up hmm185 hFm180 hc0 rfl
                            have hLm185 := zlot_i hmm185 hLm180 hc0 (by decide)
                            have g186 := zwt_fr (zdis_fr (zfr_up hmm185 (zfr_rf [(28, 50)] _) hc0 rfl) rfl)
                            have hRKNm185 := zR_KN_fr (zdis_fr (zfr_up hmm185 (zfr_rf [(28, 50)] _) hc0 rfl) rfl) hRKNm180
                            have hRNSm185 := zR_NS_fr (zdis_fr (zfr_up hmm185 (zfr_rf [(28, 50)] _) hc0 rfl) rfl) hRNSm180
                            have hRTRm185 := zR_TR_fr (zdis_fr (zfr_up hmm185 (zfr_rf [(28, 50)] _) hc0 rfl) rfl) hRTRm180
                            have hRWDm185 := zR_WD_fr (zdis_fr (zfr_up hmm185 (zfr_rf [(28, 50)] _) hc0 rfl) rfl) hRWDm180
                            have r189 : 0 ≤ (m185 a0 7) ∧ (m185 a0 7) ≤ 700 := zi_rd hIm185 hc0 zb_28_7
                            have e190 : (m185 a0 7) = (m0 a0 7) := (Eq.trans (zs_ne hmm185 (Or.inr (by decide))) (Eq.trans (zfr_ap hfm180 hc0 rfl) (zs_ne hmm171 (Or.inr (by decide)))))
                            refine zw_bd (zw_mono (zk_89 n hIm185 hc0 hRNSm185 hRWDm185) (fun v188 m187 hqm187 => ?_))
                            obtain ⟨hIm187, hfm187, hvm187⟩ := hqm187
                            have hFm187 := zfr_tr hFm185 hfm187 rfl
                            have hLm187 := zlot_go hLm185 (zlot_f hfm187 rfl)
                            obtain ⟨hRNSm187, hRTRm187, hRWDm187, hvm187⟩ := hvm187
                            have g191 := zwt_fr (zdis_fr hfm187 rfl)
                            have hRKNm187 := zR_KN_fr (zdis_fr hfm187 rfl) hRKNm185
                            have g192 := zwt_bd hIm187 hc0
                            have s193 := hRNSm187 a0 hc0
                            have r194 : 0 ≤ (m187 a0 7) ∧ (m187 a0 7) ≤ 700 := zi_rd hIm187 hc0 zb_28_7
                            have r195 : 0 ≤ (m187 a0 8) ∧ (m187 a0 8) ≤ 6 := zi_rd hIm187 hc0 zb_28_8
                            refine zw_b (by omega) ?_
                            have r196 : 0 ≤ (m187 a0 21) ∧ (m187 a0 21) ≤ 64 := zi_rd hIm187 hc0 zb_28_21
                            have e197 : (m187 a0 21) = (m180 a0 21) := (Eq.trans (zfr_ap hfm187 hc0 rfl) (zs_ne hmm185 (Or.inr (by decide))))
                            have r198 : 0 ≤ (m187 a0 48) ∧ (m187 a0 48) ≤ 64 := zi_rd hIm187 hc0 zb_28_48
                            have e199 : (m187 a0 48) = (zu_w32 ((m0 a0 48) + 1)) := (Eq.trans (zfr_ap hfm187 hc0 rfl) (Eq.trans (zs_ne hmm185 (Or.inr (by decide))) (Eq.trans (zfr_ap hfm180 hc0 rfl) (zs_eq hmm171))))
                            have r200 : 0 ≤ (m187 a0 46) ∧ (m187 a0 46) ≤ 96 := zi_rd hIm187 hc0 zb_28_46
                            have e201 : (m187 a0 46) = (m180 a0 46) := (Eq.trans (zfr_ap hfm187 hc0 rfl) (zs_ne hmm185 (Or.inr (by decide))))
                            have r202 : 0 ≤ (m187 a0 49) ∧ (m187 a0 49) ≤ 1 := zi_rd hIm187 hc0 zb_28_49
                            have e203 : (m187 a0 49) = 0 := (Eq.trans (zfr_ap hfm187 hc0 rfl) (zs_eq hmm185))
                            have r204 : 0 ≤ (m187 a0 45) ∧ (m187 a0 45) ≤ 96 := zi_rd hIm187 hc0 zb_28_45
                            have e205 : (m187 a0 45) = (m0 a0 45) := (Eq.trans (zfr_ap hfm187 hc0 rfl) (Eq.trans (zs_ne hmm185 (Or.inr (by decide))) (Eq.trans (zfr_ap hfm180 hc0 rfl) (zs_ne hmm171 (Or.inr (by decide))))))
                            have r206 : 0 ≤ (m187 a0 47) ∧ (m187 a0 47) ≤ 8 := zi_rd hIm187 hc0 zb_28_47
                            have e207 : (m187 a0 47) = (m0 a0 47) := (Eq.trans (zfr_ap hfm187 hc0 rfl) (Eq.trans (zs_ne hmm185 (Or.inr (by decide))) (Eq.trans (zfr_ap hfm180 hc0 rfl) (zs_ne hmm171 (Or.inr (by decide))))))
                            have r208 : (-2147483648) ≤ (m187 a0 4) ∧ (m187 a0 4) ≤ 2147483647 := zi_rd hIm187 hc0 zb_28_4
                            have e209 : (m187 a0 4) = (m0 a0 4) := (Eq.trans (zfr_ap hfm187 hc0 rfl) (Eq.trans (zs_ne hmm185 (Or.inr (by decide))) (Eq.trans (zfr_ap hfm180 hc0 rfl) (zs_ne hmm171 (Or.inr (by decide))))))
                            exact zw_some ⟨hIm187, hFm187, hLm187, hRKNm187, hRNSm187, hRTRm187, hRWDm187, ⟨by decide, by decide⟩, by omega, fun _ => by omega, fun _ => by omega, fun _ => by omega, fun _ => by omega, fun _ => by omega, fun _ => by omega, fun h => absurd h (by decide)⟩
                      · exfalso; omega
                    · refine zw_bd (zw_eq (zu_call_at (zt_T n) (zm_85 n) (zdp_85 n) _ _ _ _ _ rfl (zr_85_0 n _ _ a0 2 m0)) ?_)
                      generalize hmm210 : zu_up m0 a0 4 2 = m210
                      have hIm210 := zi_up hmm210 hIm0 hc0 zb_28_4 (by omega) (by omega)
                      have hFm210 := zfr_up hmm210 hFm0 hc0 rfl
                      have hLm210 := zlot_i hmm210 hLm0 hc0 (by decide)
                      have g211 := zwt_fr (zdis_fr (zfr_up hmm210 (zfr_rf [(28, 5)] _) hc0 rfl) rfl)
                      have hRKNm210 := zR_KN_fr (zdis_fr (zfr_up hmm210 (zfr_rf [(28, 5)] _) hc0 rfl) rfl) hRKNm0
                      have hRNSm210 := zR_NS_fr (zdis_fr (zfr_up hmm210 (zfr_rf [(28, 5)] _) hc0 rfl) rfl) hRNSm0
                      have hRTRm210 := zR_TR_fr (zdis_fr (zfr_up hmm210 (zfr_rf [(28, 5)] _) hc0 rfl) rfl) hRTRm0
                      have hRWDm210 := zR_WD_fr (zdis_fr (zfr_up hmm210 (zfr_rf [(28, 5)] _) hc0 rfl) rfl) hRWDm0
                      have hRLRm210 := zLR_wr (zone_190 hc0) hmm210 (by decide)
                      have r212 : 0 ≤ (m210 a0 10) ∧ (m210 a0 10) ≤ 700 := zi_rd hIm210 hc0 zb_28_10
                      generalize hmm213 : zu_up m210 a0 5 (m210 a0 10) = m213
                      have hIm213 := zi_up hmm213 hIm210 hc0 zb_28_5 (by omega) (by omega)
                      have hFm213 := zfr_up hmm213 hFm210 hc0 rfl
                      have hLm213 := zlot_i hmm213 hLm210 hc0 (by decide)
                      have g214 := zwt_fr (zdis_fr (zfr_up hmm213 (zfr_rf [(28, 6)] _) hc0 rfl) rfl)
                      have hRKNm213 := zR_KN_fr (zdis_fr (zfr_up hmm213 (zfr_rf [(28, 6)] _) hc0 rfl) rfl) hRKNm210
                      have hRLRm213 := zR_LR_fr (zdis_fr (zfr_up hmm213 (zfr_rf [(28, 6)] _) hc0 rfl) rfl) hRLRm210
                      have hRNSm213 := zR_NS_fr (zdis_fr (zfr_up hmm213 (zfr_rf [(28, 6)] _) hc0 rfl) rfl) hRNSm210
                      have hRTRm213 := zR_TR_fr (zdis_fr (zfr_up hmm213 (zfr_rf [(28, 6)] _) hc0 rfl) rfl) hRTRm210
                      have hRWDm213 := zR_WD_fr (zdis_fr (zfr_up hmm213 (zfr_rf [(28, 6)] _) hc0 rfl) rfl) hRWDm210
                      refine zw_b (by omega) ?_
                      refine zw_some ?_
                      refine zw_b (by omega) ?_
                      refine zw_some ?_
                      refine zw_ite (fun h215 => ?_) (fun h215 => ?_)
                      · exfalso; omega
                      · refine zw_b (by omega) ?_
                        have r216 : 0 ≤ (m213 a0 7) ∧ (m213 a0 7) ≤ 700 := zi_rd hIm213 hc0 zb_28_7
                        have e217 : (m213 a0 7) = (m0 a0 7) := (Eq.trans (zs_ne hmm213 (Or.inr (by decide))) (zs_ne hmm210 (Or.inr (by decide))))
                        have r218 : 0 ≤ (m213 a0 8) ∧ (m213 a0 8) ≤ 6 := zi_rd hIm213 hc0 zb_28_8
                        have e219 : (m213 a0 8) = (m0 a0 8) := (Eq.trans (zs_ne hmm213 (Or.inr (by decide))) (zs_ne hmm210 (Or.inr (by decide))))
                        have r220 : 0 ≤ (m213 a0 21) ∧ (m213 a0 21) ≤ 64 := zi_rd hIm213 hc0 zb_28_21
                        have e221 : (m213 a0 21) = (m0 a0 21) := (Eq.trans (zs_ne hmm213 (Or.inr (by decide))) (zs_ne hmm210 (Or.inr (by decide))))
                        have r222 : 0 ≤ (m213 a0 48) ∧ (m213 a0 48) ≤ 64 := zi_rd hIm213 hc0 zb_28_48
                        have e223 : (m213 a0 48) = (m0 a0 48) := (Eq.trans (zs_ne hmm213 (Or.inr (by decide))) (zs_ne hmm210 (Or.inr (by decide))))
                        have r224 : 0 ≤ (m213 a0 46) ∧ (m213 a0 46) ≤ 96 := zi_rd hIm213 hc0 zb_28_46
                        have e225 : (m213 a0 46) = (m0 a0 46) := (Eq.trans (zs_ne hmm213 (Or.inr (by decide))) (zs_ne hmm210 (Or.inr (by decide))))
                        have r226 : 0 ≤ (m213 a0 49) ∧ (m213 a0 49) ≤ 1 := zi_rd hIm213 hc0 zb_28_49
                        have e227 : (m213 a0 49) = (m0 a0 49) := (Eq.trans (zs_ne hmm213 (Or.inr (by decide))) (zs_ne hmm210 (Or.inr (by decide))))
                        have r228 : 0 ≤ (m213 a0 45) ∧ (m213 a0 45) ≤ 96 := zi_rd hIm213 hc0 zb_28_45
                        have e229 : (m213 a0 45) = (m0 a0 45) := (Eq.trans (zs_ne hmm213 (Or.inr (by decide))) (zs_ne hmm210 (Or.inr (by decide))))
                        have r230 : 0 ≤ (m213 a0 47) ∧ (m213 a0 47) ≤ 8 := zi_rd hIm213 hc0 zb_28_47
                        have e231 : (m213 a0 47) = (m0 a0 47) := (Eq.trans (zs_ne hmm213 (Or.inr (by decide))) (zs_ne hmm210 (Or.inr (by decide))))
                        have r232 : (-2147483648) ≤ (m213 a0 4) ∧ (m213 a0 4) ≤ 2147483647 := zi_rd hIm213 hc0 zb_28_4
                        have e233 : (m213 a0 4) = 2 := (Eq.trans (zs_ne hmm213 (Or.inr (by decide))) (zs_eq hmm210))
                        exact zw_some ⟨hIm213, hFm213, hLm213, hRKNm213, hRNSm213, hRTRm213, hRWDm213, ⟨by decide, by decide⟩, by omega, fun h => absurd h (by decide), fun h => absurd h (by decide), fun h => absurd h (by decide), fun h => absurd h (by decide), fun h => absurd h (by decide), fun h => absurd h (by decide), fun _ => by omega⟩
                  · exfalso; omega
                · exfalso; omega
          · exfalso; omega
        · refine zw_b (by omega) ?_
          refine zw_some ?_
          refine zw_ite (fun h234 => ?_) (fun h234 => ?_)
          · exfalso; omega
          · have r235 : 0 ≤ (m0 a0 50) ∧ (m0 a0 50) ≤ 1 := zi_rd hIm0 hc0 zb_28_50
            refine zw_ite (fun h236 => ?_) (fun h236 => ?_)
            · refine zw_bd (zw_eq (zu_call_at (zt_T n) (zm_115 n) (zdp_115 n) _ _ _ _ _ rfl (zr_115_0 n _ _ a0 m0)) ?_)
              refine zw_ite (fun h237 => ?_) (fun h237 => ?_)
              · exfalso; omega
              · have s238 := (hRTRm0 a0 hc0).2.1 (by omega)
                refine zw_ite (fun h239 => ?_) (fun h239 => ?_)
                · refine zw_some ?_
                  refine zw_ite (fun h240 => ?_) (fun h240 => ?_)
                  · exfalso; omega
                  · refine zw_ite (fun h241 => ?_) (fun h241 => ?_)
                    · exfalso; omega
                    · have s242 := (hRTRm0 a0 hc0).2.1 (by omega)
                      refine zw_bd (zw_eq (zu_call_at (zt_T n) (zm_85 n) (zdp_85 n) _ _ _ _ _ rfl (zr_85_0 n _ _ a0 1 m0)) ?_)
                      generalize hmm243 : zu_up m0 a0 4 1 = m243
                      have hIm243 := zi_up hmm243 hIm0 hc0 zb_28_4 (by omega) (by omega)
                      have hFm243 := zfr_up hmm243 hFm0 hc0 rfl
                      have hLm243 := zlot_i hmm243 hLm0 hc0 (by decide)
                      have g244 := zwt_fr (zdis_fr (zfr_up hmm243 (zfr_rf [(28, 5)] _) hc0 rfl) rfl)
                      have hRKNm243 := zR_KN_fr (zdis_fr (zfr_up hmm243 (zfr_rf [(28, 5)] _) hc0 rfl) rfl) hRKNm0
                      have hRNSm243 := zR_NS_fr (zdis_fr (zfr_up hmm243 (zfr_rf [(28, 5)] _) hc0 rfl) rfl) hRNSm0
                      have hRTRm243 := zR_TR_fr (zdis_fr (zfr_up hmm243 (zfr_rf [(28, 5)] _) hc0 rfl) rfl) hRTRm0
                      have hRWDm243 := zR_WD_fr (zdis_fr (zfr_up hmm243 (zfr_rf [(28, 5)] _) hc0 rfl) rfl) hRWDm0
                      have hRLRm243 := zLR_wr (zone_190 hc0) hmm243 (by decide)
                      have r245 : 0 ≤ (m243 a0 10) ∧ (m243 a0 10) ≤ 700 := zi_rd hIm243 hc0 zb_28_10
                      generalize hmm246 : zu_up m243 a0 5 (m243 a0 10) = m246
                      have hIm246 := zi_up hmm246 hIm243 hc0 zb_28_5 (by omega) (by omega)
                      have hFm246 := zfr_up hmm246 hFm243 hc0 rfl
                      have hLm246 := zlot_i hmm246 hLm243 hc0 (by decide)
                      have g247 := zwt_fr (zdis_fr (zfr_up hmm246 (zfr_rf [(28, 6)] _) hc0 rfl) rfl)
                      have hRKNm246 := zR_KN_fr (zdis_fr (zfr_up hmm246 (zfr_rf [(28, 6)] _) hc0 rfl) rfl) hRKNm243
                      have hRLRm246 := zR_LR_fr (zdis_fr (zfr_up hmm246 (zfr_rf [(28, 6)] _) hc0 rfl) rfl) hRLRm243
                      have hRNSm246 := zR_NS_fr (zdis_fr (zfr_up hmm246 (zfr_rf [(28, 6)] _) hc0 rfl) rfl) hRNSm243
                      have hRTRm246 := zR_TR_fr (zdis_fr (zfr_up hmm246 (zfr_rf [(28, 6)] _) hc0 rfl) rfl) hRTRm243
                      have hRWDm246 := zR_WD_fr (zdis_fr (zfr_up hmm246 (zfr_rf [(28, 6)] _) hc0 rfl) rfl) hRWDm243
                      refine zw_b (by omega) ?_
                      refine zw_some ?_
                      refine zw_b (by omega) ?_
                      have r248 : 0 ≤ (m246 a0 7) ∧ (m246 a0 7) ≤ 700 := zi_rd hIm246 hc0 zb_28_7
                      have e249 : (m246 a0 7) = (m0 a0 7) := (Eq.trans (zs_ne hmm246 (Or.inr (by decide))) (zs_ne hmm243 (Or.inr (by decide))))
                      have r250 : 0 ≤ (m246 a0 8) ∧ (m246 a0 8) ≤ 6 := zi_rd hIm246 hc0 zb_28_8
                      have e251 : (m246 a0 8) = (m0 a0 8) := (Eq.trans (zs_ne hmm246 (Or.inr (by decide))) (zs_ne hmm243 (Or.inr (by decide))))
                      have r252 : 0 ≤ (m246 a0 21) ∧ (m246 a0 21) ≤ 64 := zi_rd hIm246 hc0 zb_28_21
                      have e253 : (m246 a0 21) = (m0 a0 21) := (Eq.trans (zs_ne hmm246 (Or.inr (by decide))) (zs_ne hmm243 (Or.inr (by decide))))
                      have r254 : 0 ≤ (m246 a0 48) ∧ (m246 a0 48) ≤ 64 := zi_rd hIm246 hc0 zb_28_48
                      have e255 : (m246 a0 48) = (m0 a0 48) := (Eq.trans (zs_ne hmm246 (Or.inr (by decide))) (zs_ne hmm243 (Or.inr (by decide))))
                      have r256 : 0 ≤ (m246 a0 46) ∧ (m246 a0 46) ≤ 96 := zi_rd hIm246 hc0 zb_28_46
                      have e257 : (m246 a0 46) = (m0 a0 46) := (Eq.trans (zs_ne hmm246 (Or.inr (by decide))) (zs_ne hmm243 (Or.inr (by decide))))
                      have r258 : 0 ≤ (m246 a0 49) ∧ (m246 a0 49) ≤ 1 := zi_rd hIm246 hc0 zb_28_49
                      have e259 : (m246 a0 49) = (m0 a0 49) := (Eq.trans (zs_ne hmm246 (Or.inr (by decide))) (zs_ne hmm243 (Or.inr (by decide))))
                      have r260 : 0 ≤ (m246 a0 45) ∧ (m246 a0 45) ≤ 96 := zi_rd hIm246 hc0 zb_28_45
                      have e261 : (m246 a0 45) = (m0 a0 45) := (Eq.trans (zs_ne hmm246 (Or.inr (by decide))) (zs_ne hmm243 (Or.inr (by decide))))
                      have r262 : 0 ≤ (m246 a0 47) ∧ (m246 a0 47) ≤ 8 := zi_rd hIm246 hc0 zb_28_47
                      have e263 : (m246 a0 47) = (m0 a0 47) := (Eq.trans (zs_ne hmm246 (Or.inr (by decide))) (zs_ne hmm243 (Or.inr (by decide))))
                      have r264 : (-2147483648) ≤ (m246 a0 4) ∧ (m246 a0 4) ≤ 2147483647 := zi_rd hIm246 hc0 zb_28_4
                      have e265 : (m246 a0 4) = 1 := (Eq.trans (zs_ne hmm246 (Or.inr (by decide))) (zs_eq hmm243))
                      exact zw_some ⟨hIm246, hFm246, hLm246, hRKNm246, hRNSm246, hRTRm246, hRWDm246, ⟨by decide, by decide⟩, by omega, fun h => absurd h (by decide), fun h => absurd h (by decide), fun h => absurd h (by decide), fun h => absurd h (by decide), fun h => absurd h (by decide), fun h => absurd h (by decide), fun _ => by omega⟩
                · exfalso; omega
            · refine zw_bd (zw_eq (zu_call_at (zt_T n) (zm_113 n) (zdp_113 n) _ _ _ _ _ rfl (zr_113_0 n _ _ a0 m0)) ?_)
              refine zw_ite (fun h266 => ?_) (fun h266 => ?_)
              · have w267 := zu_w32_id (z := (m0 a0 48) + 1) (by omega) (by omega)
                generalize hmm268 : zu_up m0 a0 48 (zu_w32 ((m0 a0 48) + 1)) = m268
                have hIm268 := zi_up hmm268 hIm0 hc0 zb_28_48 (by omega) (by omega)
                have hFm268 := zfr_up hmm268 hFm0 hc0 rfl
                have hLm268 := zlot_i hmm268 hLm0 hc0 (by decide)
                have g269 := zwt_fr (zdis_fr (zfr_up hmm268 (zfr_rf [(28, 49)] _) hc0 rfl) rfl)
                have hRKNm268 := zR_KN_fr (zdis_fr (zfr_up hmm268 (zfr_rf [(28, 49)] _) hc0 rfl) rfl) hRKNm0
                have hRNSm268 := zR_NS_fr (zdis_fr (zfr_up hmm268 (zfr_rf [(28, 49)] _) hc0 rfl) rfl) hRNSm0
                have hRTRm268 := zR_TR_fr (zdis_fr (zfr_up hmm268 (zfr_rf [(28, 49)] _) hc0 rfl) rfl) hRTRm0
                have hRWDm268 := zR_WD_fr (zdis_fr (zfr_up hmm268 (zfr_rf [(28, 49)] _) hc0 rfl) rfl) hRWDm0
                refine zw_b (by omega) ?_
                refine zw_some ?_
                refine zw_ite (fun h270 => ?_) (fun h270 => ?_)
                · refine zw_bd (zw_eq (zu_call_at (zt_T n) (zm_114 n) (zdp_114 n) _ _ _ _ _ rfl (zr_114_0 n _ _ a0 2 m268)) ?_)
                  have r271 : 0 ≤ (m268 a0 45) ∧ (m268 a0 45) ≤ 96 := zi_rd hIm268 hc0 zb_28_45
                  have e272 : (m268 a0 45) = (m0 a0 45) := (zs_ne hmm268 (Or.inr (by decide)))
                  have b273 : 0 ≤ (m268 a0 45) ∧ (m268 a0 45) < 96 := by omega
                  refine zw_if b273 ?_
                  generalize hmm274 : zu_up m268 211 (m268 a0 45) 2 = m274
                  have hIm274 := zi_up hmm274 hIm268 zq_211 (zb_120 _) (by omega) (by omega)
                  have hFm274 := zfr_up hmm274 hFm268 zq_211 rfl
                  have hLm274 := zlot_ne hmm274 hLm268 zq_211 (by decide) (by decide) (by decide) (by decide)
                  have hRKNm274 := zR_KN_fr (zdis_fr (zfr_up hmm274 (zfr_rf [(120, 0)] _) zq_211 rfl) rfl) hRKNm268
                  have hRNSm274 := zR_NS_fr (zdis_fr (zfr_up hmm274 (zfr_rf [(120, 0)] _) zq_211 rfl) rfl) hRNSm268
                  have hRTRm274 := zR_TR_fr (zdis_fr (zfr_up hmm274 (zfr_rf [(120, 0)] _) zq_211 rfl) rfl) hRTRm268
                  have hRWDm274 := zR_WD_fr (zdis_fr (zfr_up hmm274 (zfr_rf [(120, 0)] _) zq_211 rfl) rfl) hRWDm268
                  have r275 : 0 ≤ (m274 a0 45) ∧ (m274 a0 45) ≤ 96 := zi_rd hIm274 hc0 zb_28_45
                  have e276 : (m274 a0 45) = (m268 a0 45) := (zs_ne hmm274 (Or.inl (zc_ne hc0 zq_211 (by decide))))
                  have w277 := zu_w32_id (z := (m274 a0 45) + 1) (by omega) (by omega)
                  generalize hmm278 : zu_up m274 a0 45 (zu_w32 ((m274 a0 45) + 1)) = m278
                  have hIm278 := zi_up hmm278 hIm274 hc0 zb_28_45 (by omega) (by omega)
                  have hFm278 := zfr_up hmm278 hFm274 hc0 rfl
                  have hLm278 := zlot_i hmm278 hLm274 hc0 (by decide)
                  have hRKNm278 := zR_KN_fr (zdis_fr (zfr_up hmm278 (zfr_rf [(28, 46)] _) hc0 rfl) rfl) hRKNm274
                  have hRNSm278 := zR_NS_fr (zdis_fr (zfr_up hmm278 (zfr_rf [(28, 46)] _) hc0 rfl) rfl) hRNSm274
                  have hRTRm278 := zR_TR_fr (zdis_fr (zfr_up hmm278 (zfr_rf [(28, 46)] _) hc0 rfl) rfl) hRTRm274
                  have hRWDm278 := zR_WD_fr (zdis_fr (zfr_up hmm278 (zfr_rf [(28, 46)] _) hc0 rfl) rfl) hRWDm274
                  have g279 := zwt_push hmm274 hmm278 hc0 (by omega) (by omega) (by omega)
                  have g280 := zwt_bd hIm278 hc0
                  refine zw_some ?_
                  have r283 : 0 ≤ (m278 a0 7) ∧ (m278 a0 7) ≤ 700 := zi_rd hIm278 hc0 zb_28_7
                  have e284 : (m278 a0 7) = (m0 a0 7) := (Eq.trans (zs_ne hmm278 (Or.inr (by decide))) (Eq.trans (zs_ne hmm274 (Or.inl (zc_ne hc0 zq_211 (by decide)))) (zs_ne hmm268 (Or.inr (by decide)))))
                  refine zw_bd (zw_mono (zk_89 n hIm278 hc0 hRNSm278 hRWDm278) (fun v282 m281 hqm281 => ?_))
                  obtain ⟨hIm281, hfm281, hvm281⟩ := hqm281
                  have hFm281 := zfr_tr hFm278 hfm281 rfl
                  have hLm281 := zlot_go hLm278 (zlot_f hfm281 rfl)
                  obtain ⟨hRNSm281, hRTRm281, hRWDm281, hvm281⟩ := hvm281
                  have g285 := zwt_fr (zdis_fr hfm281 rfl)
                  have hRKNm281 := zR_KN_fr (zdis_fr hfm281 rfl) hRKNm278
                  have g286 := zwt_bd hIm281 hc0
                  have s287 := hRNSm281 a0 hc0
                  have r288 : 0 ≤ (m281 a0 7) ∧ (m281 a0 7) ≤ 700 := zi_rd hIm281 hc0 zb_28_7
                  have r289 : 0 ≤ (m281 a0 8) ∧ (m281 a0 8) ≤ 6 := zi_rd hIm281 hc0 zb_28_8
                  refine zw_b (by omega) ?_
                  have r290 : 0 ≤ (m281 a0 21) ∧ (m281 a0 21) ≤ 64 := zi_rd hIm281 hc0 zb_28_21
                  have e291 : (m281 a0 21) = (m0 a0 21) := (Eq.trans (zfr_ap hfm281 hc0 rfl) (Eq.trans (zs_ne hmm278 (Or.inr (by decide))) (Eq.trans (zs_ne hmm274 (Or.inl (zc_ne hc0 zq_211 (by decide)))) (zs_ne hmm268 (Or.inr (by decide))))))
                  have r292 : 0 ≤ (m281 a0 48) ∧ (m281 a0 48) ≤ 64 := zi_rd hIm281 hc0 zb_28_48
                  have e293 : (m281 a0 48) = (zu_w32 ((m0 a0 48) + 1)) := (Eq.trans (zfr_ap hfm281 hc0 rfl) (Eq.trans (zs_ne hmm278 (Or.inr (by decide))) (Eq.trans (zs_ne hmm274 (Or.inl (zc_ne hc0 zq_211 (by decide)))) (zs_eq hmm268))))
                  have r294 : 0 ≤ (m281 a0 46) ∧ (m281 a0 46) ≤ 96 := zi_rd hIm281 hc0 zb_28_46
                  have e295 : (m281 a0 46) = (m0 a0 46) := (Eq.trans (zfr_ap hfm281 hc0 rfl) (Eq.trans (zs_ne hmm278 (Or.inr (by decide))) (Eq.trans (zs_ne hmm274 (Or.inl (zc_ne hc0 zq_211 (by decide)))) (zs_ne hmm268 (Or.inr (by decide))))))
                  have r296 : 0 ≤ (m281 a0 49) ∧ (m281 a0 49) ≤ 1 := zi_rd hIm281 hc0 zb_28_49
                  have e297 : (m281 a0 49) = (m0 a0 49) := (Eq.trans (zfr_ap hfm281 hc0 rfl) (Eq.trans (zs_ne hmm278 (Or.inr (by decide))) (Eq.trans (zs_ne hmm274 (Or.inl (zc_ne hc0 zq_211 (by decide)))) (zs_ne hmm268 (Or.inr (by decide))))))
                  have r298 : 0 ≤ (m281 a0 45) ∧ (m281 a0 45) ≤ 96 := zi_rd hIm281 hc0 zb_28_45
                  have e299 : (m281 a0 45) = (zu_w32 ((m274 a0 45) + 1)) := (Eq.trans (zfr_ap hfm281 hc0 rfl) (zs_eq hmm278))
                  have r300 : 0 ≤ (m281 a0 47) ∧ (m281 a0 47) ≤ 8 := zi_rd hIm281 hc0 zb_28_47
                  have e301 : (m281 a0 47) = (m0 a0 47) := (Eq.trans (zfr_ap hfm281 hc0 rfl) (Eq.trans (zs_ne hmm278 (Or.inr (by decide))) (Eq.trans (zs_ne hmm274 (Or.inl (zc_ne hc0 zq_211 (by decide)))) (zs_ne hmm268 (Or.inr (by decide))))))
                  have r302 : (-2147483648) ≤ (m281 a0 4) ∧ (m281 a0 4) ≤ 2147483647 := zi_rd hIm281 hc0 zb_28_4
                  have e303 : (m281 a0 4) = (m0 a0 4) := (Eq.trans (zfr_ap hfm281 hc0 rfl) (Eq.trans (zs_ne hmm278 (Or.inr (by decide))) (Eq.trans (zs_ne hmm274 (Or.inl (zc_ne hc0 zq_211 (by decide)))) (zs_ne hmm268 (Or.inr (by decide))))))
                  exact zw_some ⟨hIm281, hFm281, hLm281, hRKNm281, hRNSm281, hRTRm281, hRWDm281, ⟨by decide, by decide⟩, by omega, fun _ => by omega, fun _ => by omega, fun _ => by omega, fun _ => by omega, fun _ => by omega, fun _ => by omega, fun h => absurd h (by decide)⟩
                · exfalso; omega
              · refine zw_bd (zw_eq (zu_call_at (zt_T n) (zm_85 n) (zdp_85 n) _ _ _ _ _ rfl (zr_85_0 n _ _ a0 2 m0)) ?_)
                generalize hmm304 : zu_up m0 a0 4 2 = m304
                have hIm304 := zi_up hmm304 hIm0 hc0 zb_28_4 (by omega) (by omega)
                have hFm304 := zfr_up hmm304 hFm0 hc0 rfl
                have hLm304 := zlot_i hmm304 hLm0 hc0 (by decide)
                have g305 := zwt_fr (zdis_fr (zfr_up hmm304 (zfr_rf [(28, 5)] _) hc0 rfl) rfl)
                have hRKNm304 := zR_KN_fr (zdis_fr (zfr_up hmm304 (zfr_rf [(28, 5)] _) hc0 rfl) rfl) hRKNm0
                have hRNSm304 := zR_NS_fr (zdis_fr (zfr_up hmm304 (zfr_rf [(28, 5)] _) hc0 rfl) rfl) hRNSm0
                have hRTRm304 := zR_TR_fr (zdis_fr (zfr_up hmm304 (zfr_rf [(28, 5)] _) hc0 rfl) rfl) hRTRm0
                have hRWDm304 := zR_WD_fr (zdis_fr (zfr_up hmm304 (zfr_rf [(28, 5)] _) hc0 rfl) rfl) hRWDm0
                have hRLRm304 := zLR_wr (zone_190 hc0) hmm304 (by decide)
                have r306 : 0 ≤ (m304 a0 10) ∧ (m304 a0 10) ≤ 700 := zi_rd hIm304 hc0 zb_28_10
                generalize hmm307 : zu_up m304 a0 5 (m304 a0 10) = m307
                have hIm307 := zi_up hmm307 hIm304 hc0 zb_28_5 (by omega) (by omega)
                have hFm307 := zfr_up hmm307 hFm304 hc0 rfl
                have hLm307 := zlot_i hmm307 hLm304 hc0 (by decide)
                have g308 := zwt_fr (zdis_fr (zfr_up hmm307 (zfr_rf [(28, 6)] _) hc0 rfl) rfl)
                have hRKNm307 := zR_KN_fr (zdis_fr (zfr_up hmm307 (zfr_rf [(28, 6)] _) hc0 rfl) rfl) hRKNm304
                have hRLRm307 := zR_LR_fr (zdis_fr (zfr_up hmm307 (zfr_rf [(28, 6)] _) hc0 rfl) rfl) hRLRm304
                have hRNSm307 := zR_NS_fr (zdis_fr (zfr_up hmm307 (zfr_rf [(28, 6)] _) hc0 rfl) rfl) hRNSm304
                have hRTRm307 := zR_TR_fr (zdis_fr (zfr_up hmm307 (zfr_rf [(28, 6)] _) hc0 rfl) rfl) hRTRm304
                have hRWDm307 := zR_WD_fr (zdis_fr (zfr_up hmm307 (zfr_rf [(28, 6)] _) hc0 rfl) rfl) hRWDm304
                refine zw_b (by omega) ?_
                refine zw_some ?_
                refine zw_b (by omega) ?_
                refine zw_some ?_
                refine zw_ite (fun h309 => ?_) (fun h309 => ?_)
                · exfalso; omega
                · refine zw_b (by omega) ?_
                  have r310 : 0 ≤ (m307 a0 7) ∧ (m307 a0 7) ≤ 700 := zi_rd hIm307 hc0 zb_28_7
                  have e311 : (m307 a0 7) = (m0 a0 7) := (Eq.trans (zs_ne hmm307 (Or.inr (by decide))) (zs_ne hmm304 (Or.inr (by decide))))
                  have r312 : 0 ≤ (m307 a0 8) ∧ (m307 a0 8) ≤ 6 := zi_rd hIm307 hc0 zb_28_8
                  have e313 : (m307 a0 8) = (m0 a0 8) := (Eq.trans (zs_ne hmm307 (Or.inr (by decide))) (zs_ne hmm304 (Or.inr (by decide))))
                  have r314 : 0 ≤ (m307 a0 21) ∧ (m307 a0 21) ≤ 64 := zi_rd hIm307 hc0 zb_28_21
                  have e315 : (m307 a0 21) = (m0 a0 21) := (Eq.trans (zs_ne hmm307 (Or.inr (by decide))) (zs_ne hmm304 (Or.inr (by decide))))
                  have r316 : 0 ≤ (m307 a0 48) ∧ (m307 a0 48) ≤ 64 := zi_rd hIm307 hc0 zb_28_48
                  have e317 : (m307 a0 48) = (m0 a0 48) := (Eq.trans (zs_ne hmm307 (Or.inr (by decide))) (zs_ne hmm304 (Or.inr (by decide))))
                  have r318 : 0 ≤ (m307 a0 46) ∧ (m307 a0 46) ≤ 96 := zi_rd hIm307 hc0 zb_28_46
                  have e319 : (m307 a0 46) = (m0 a0 46) := (Eq.trans (zs_ne hmm307 (Or.inr (by decide))) (zs_ne hmm304 (Or.inr (by decide))))
                  have r320 : 0 ≤ (m307 a0 49) ∧ (m307 a0 49) ≤ 1 := zi_rd hIm307 hc0 zb_28_49
                  have e321 : (m307 a0 49) = (m0 a0 49) := (Eq.trans (zs_ne hmm307 (Or.inr (by decide))) (zs_ne hmm304 (Or.inr (by decide))))
                  have r322 : 0 ≤ (m307 a0 45) ∧ (m307 a0 45) ≤ 96 := zi_rd hIm307 hc0 zb_28_45
                  have e323 : (m307 a0 45) = (m0 a0 45) := (Eq.trans (zs_ne hmm307 (Or.inr (by decide))) (zs_ne hmm304 (Or.inr (by decide))))
                  have r324 : 0 ≤ (m307 a0 47) ∧ (m307 a0 47) ≤ 8 := zi_rd hIm307 hc0 zb_28_47
                  have e325 : (m307 a0 47) = (m0 a0 47) := (Eq.trans (zs_ne hmm307 (Or.inr (by decide))) (zs_ne hmm304 (Or.inr (by decide))))
                  have r326 : (-2147483648) ≤ (m307 a0 4) ∧ (m307 a0 4) ≤ 2147483647 := zi_rd hIm307 hc0 zb_28_4
                  have e327 : (m307 a0 4) = 2 := (Eq.trans (zs_ne hmm307 (Or.inr (by decide))) (zs_eq hmm304))
                  exact zw_some ⟨hIm307, hFm307, hLm307, hRKNm307, hRNSm307, hRTRm307, hRWDm307, ⟨by decide, by decide⟩, by omega, fun h => absurd h (by decide), fun h => absurd h (by decide), fun h => absurd h (by decide), fun h => absurd h (by decide), fun h => absurd h (by decide), fun h => absurd h (by decide), fun _ => by omega⟩
    · exfalso; omega
  · have r328 : (-2147483648) ≤ (m0 a0 9) ∧ (m0 a0 9) ≤ 2147483647 := zi_rd hIm0 hc0 zb_28_9
    refine zw_ite (fun h329 => ?_) (fun h329 => ?_)
    · refine zw_b (by omega) ?_
      refine zw_some ?_
      refine zw_ite (fun h330 => ?_) (fun h330 => ?_)
      · refine zw_bd (zw_eq (zu_call_at (zt_T n) (zm_92 n) (zdp_92 n) _ _ _ _ _ rfl (zr_92_0 n _ _ a0 25 m0)) ?_)
        refine zw_ite (fun h331 => ?_) (fun h331 => ?_)
        · refine zw_b (by omega) ?_
          refine zw_some ?_
          refine zw_ite (fun h332 => ?_) (fun h332 => ?_)
          · refine zw_bd (zw_eq (zu_call_at (zt_T n) (zm_115 n) (zdp_115 n) _ _ _ _ _ rfl (zr_115_0 n _ _ a0 m0)) ?_)
            refine zw_ite (fun h333 => ?_) (fun h333 => ?_)
            · refine zw_some ?_
              refine zw_ite (fun h334 => ?_) (fun h334 => ?_)
              · exfalso; omega
              · refine zw_ite (fun h335 => ?_) (fun h335 => ?_)
                · exfalso; omega
                · refine zw_bd (zw_eq (zu_call_at (zt_T n) (zm_85 n) (zdp_85 n) _ _ _ _ _ rfl (zr_85_0 n _ _ a0 1 m0)) ?_)
                  generalize hmm336 : zu_up m0 a0 4 1 = m336
                  have hIm336 := zi_up hmm336 hIm0 hc0 zb_28_4 (by omega) (by omega)
                  have hFm336 := zfr_up hmm336 hFm0 hc0 rfl
                  have hLm336 := zlot_i hmm336 hLm0 hc0 (by decide)
                  have g337 := zwt_fr (zdis_fr (zfr_up hmm336 (zfr_rf [(28, 5)] _) hc0 rfl) rfl)
                  have hRKNm336 := zR_KN_fr (zdis_fr (zfr_up hmm336 (zfr_rf [(28, 5)] _) hc0 rfl) rfl) hRKNm0
                  have hRNSm336 := zR_NS_fr (zdis_fr (zfr_up hmm336 (zfr_rf [(28, 5)] _) hc0 rfl) rfl) hRNSm0
                  have hRTRm336 := zR_TR_fr (zdis_fr (zfr_up hmm336 (zfr_rf [(28, 5)] _) hc0 rfl) rfl) hRTRm0
                  have hRWDm336 := zR_WD_fr (zdis_fr (zfr_up hmm336 (zfr_rf [(28, 5)] _) hc0 rfl) rfl) hRWDm0
                  have hRLRm336 := zLR_wr (zone_190 hc0) hmm336 (by decide)
                  have r338 : 0 ≤ (m336 a0 10) ∧ (m336 a0 10) ≤ 700 := zi_rd hIm336 hc0 zb_28_10
                  generalize hmm339 : zu_up m336 a0 5 (m336 a0 10) = m339
                  have hIm339 := zi_up hmm339 hIm336 hc0 zb_28_5 (by omega) (by omega)
                  have hFm339 := zfr_up hmm339 hFm336 hc0 rfl
                  have hLm339 := zlot_i hmm339 hLm336 hc0 (by decide)
                  have g340 := zwt_fr (zdis_fr (zfr_up hmm339 (zfr_rf [(28, 6)] _) hc0 rfl) rfl)
                  have hRKNm339 := zR_KN_fr (zdis_fr (zfr_up hmm339 (zfr_rf [(28, 6)] _) hc0 rfl) rfl) hRKNm336
                  have hRLRm339 := zR_LR_fr (zdis_fr (zfr_up hmm339 (zfr_rf [(28, 6)] _) hc0 rfl) rfl) hRLRm336
                  have hRNSm339 := zR_NS_fr (zdis_fr (zfr_up hmm339 (zfr_rf [(28, 6)] _) hc0 rfl) rfl) hRNSm336
                  have hRTRm339 := zR_TR_fr (zdis_fr (zfr_up hmm339 (zfr_rf [(28, 6)] _) hc0 rfl) rfl) hRTRm336
                  have hRWDm339 := zR_WD_fr (zdis_fr (zfr_up hmm339 (zfr_rf [(28, 6)] _) hc0 rfl) rfl) hRWDm336
                  refine zw_b (by omega) ?_
                  refine zw_some ?_
                  refine zw_b (by omega) ?_
                  have r341 : 0 ≤ (m339 a0 7) ∧ (m339 a0 7) ≤ 700 := zi_rd hIm339 hc0 zb_28_7
                  have e342 : (m339 a0 7) = (m0 a0 7) := (Eq.trans (zs_ne hmm339 (Or.inr (by decide))) (zs_ne hmm336 (Or.inr (by decide))))
                  have r343 : 0 ≤ (m339 a0 8) ∧ (m339 a0 8) ≤ 6 := zi_rd hIm339 hc0 zb_28_8
                  have e344 : (m339 a0 8) = (m0 a0 8) := (Eq.trans (zs_ne hmm339 (Or.inr (by decide))) (zs_ne hmm336 (Or.inr (by decide))))
                  have r345 : 0 ≤ (m339 a0 21) ∧ (m339 a0 21) ≤ 64 := zi_rd hIm339 hc0 zb_28_21
                  have e346 : (m339 a0 21) = (m0 a0 21) := (Eq.trans (zs_ne hmm339 (Or.inr (by decide))) (zs_ne hmm336 (Or.inr (by decide))))
                  have r347 : 0 ≤ (m339 a0 48) ∧ (m339 a0 48) ≤ 64 := zi_rd hIm339 hc0 zb_28_48
                  have e348 : (m339 a0 48) = (m0 a0 48) := (Eq.trans (zs_ne hmm339 (Or.inr (by decide))) (zs_ne hmm336 (Or.inr (by decide))))
                  have r349 : 0 ≤ (m339 a0 46) ∧ (m339 a0 46) ≤ 96 := zi_rd hIm339 hc0 zb_28_46
                  have e350 : (m339 a0 46) = (m0 a0 46) := (Eq.trans (zs_ne hmm339 (Or.inr (by decide))) (zs_ne hmm336 (Or.inr (by decide))))
                  have r351 : 0 ≤ (m339 a0 49) ∧ (m339 a0 49) ≤ 1 := zi_rd hIm339 hc0 zb_28_49
                  have e352 : (m339 a0 49) = (m0 a0 49) := (Eq.trans (zs_ne hmm339 (Or.inr (by decide))) (zs_ne hmm336 (Or.inr (by decide))))
                  have r353 : 0 ≤ (m339 a0 45) ∧ (m339 a0 45) ≤ 96 := zi_rd hIm339 hc0 zb_28_45
                  have e354 : (m339 a0 45) = (m0 a0 45) := (Eq.trans (zs_ne hmm339 (Or.inr (by decide))) (zs_ne hmm336 (Or.inr (by decide))))
                  have r355 : 0 ≤ (m339 a0 47) ∧ (m339 a0 47) ≤ 8 := zi_rd hIm339 hc0 zb_28_47
                  have e356 : (m339 a0 47) = (m0 a0 47) := (Eq.trans (zs_ne hmm339 (Or.inr (by decide))) (zs_ne hmm336 (Or.inr (by decide))))
                  have r357 : (-2147483648) ≤ (m339 a0 4) ∧ (m339 a0 4) ≤ 2147483647 := zi_rd hIm339 hc0 zb_28_4
                  have e358 : (m339 a0 4) = 1 := (Eq.trans (zs_ne hmm339 (Or.inr (by decide))) (zs_eq hmm336))
                  exact zw_some ⟨hIm339, hFm339, hLm339, hRKNm339, hRNSm339, hRTRm339, hRWDm339, ⟨by decide, by decide⟩, by omega, fun h => absurd h (by decide), fun h => absurd h (by decide), fun h => absurd h (by decide), fun h => absurd h (by decide), fun h => absurd h (by decide), fun h => absurd h (by decide), fun _ => by omega⟩
            · exfalso; omega
          · exfalso; omega
        · exfalso; omega
      · exfalso; omega
    · refine zw_b (by omega) ?_
      refine zw_some ?_
      refine zw_ite (fun h359 => ?_) (fun h359 => ?_)
      · exfalso; omega
      · refine zw_ite (fun h360 => ?_) (fun h360 => ?_)
        · have w361 := zu_w32_id (z := (m0 a0 47) + 1) (by omega) (by omega)
          generalize hmm362 : zu_up m0 a0 47 (zu_w32 ((m0 a0 47) + 1)) = m362
          have hIm362 := zi_up hmm362 hIm0 hc0 zb_28_47 (by omega) (by omega)
          have hFm362 := zfr_up hmm362 hFm0 hc0 rfl
          have hLm362 := zlot_i hmm362 hLm0 hc0 (by decide)
          have g363 := zwt_fr (zdis_fr (zfr_up hmm362 (zfr_rf [(28, 48)] _) hc0 rfl) rfl)
          have hRKNm362 := zR_KN_fr (zdis_fr (zfr_up hmm362 (zfr_rf [(28, 48)] _) hc0 rfl) rfl) hRKNm0
          have hRNSm362 := zR_NS_fr (zdis_fr (zfr_up hmm362 (zfr_rf [(28, 48)] _) hc0 rfl) rfl) hRNSm0
          have hRTRm362 := zR_TR_fr (zdis_fr (zfr_up hmm362 (zfr_rf [(28, 48)] _) hc0 rfl) rfl) hRTRm0
          have hRWDm362 := zR_WD_fr (zdis_fr (zfr_up hmm362 (zfr_rf [(28, 48)] _) hc0 rfl) rfl) hRWDm0
          refine zw_bd (zw_eq (zu_call_at (zt_T n) (zm_114 n) (zdp_114 n) _ _ _ _ _ rfl (zr_114_0 n _ _ a0 0 m362)) ?_)
          have r364 : 0 ≤ (m362 a0 45) ∧ (m362 a0 45) ≤ 96 := zi_rd hIm362 hc0 zb_28_45
          have e365 : (m362 a0 45) = (m0 a0 45) := (zs_ne hmm362 (Or.inr (by decide)))
          have b366 : 0 ≤ (m362 a0 45) ∧ (m362 a0 45) < 96 := by omega
          refine zw_if b366 ?_
          generalize hmm367 : zu_up m362 211 (m362 a0 45) 0 = m367
          have hIm367 := zi_up hmm367 hIm362 zq_211 (zb_120 _) (by omega) (by omega)
          have hFm367 := zfr_up hmm367 hFm362 zq_211 rfl
          have hLm367 := zlot_ne hmm367 hLm362 zq_211 (by decide) (by decide) (by decide) (by decide)
          have hRKNm367 := zR_KN_fr (zdis_fr (zfr_up hmm367 (zfr_rf [(120, 0)] _) zq_211 rfl) rfl) hRKNm362
          have hRNSm367 := zR_NS_fr (zdis_fr (zfr_up hmm367 (zfr_rf [(120, 0)] _) zq_211 rfl) rfl) hRNSm362
          have hRTRm367 := zR_TR_fr (zdis_fr (zfr_up hmm367 (zfr_rf [(120, 0)] _) zq_211 rfl) rfl) hRTRm362
          have hRWDm367 := zR_WD_fr (zdis_fr (zfr_up hmm367 (zfr_rf [(120, 0)] _) zq_211 rfl) rfl) hRWDm362
          have r368 : 0 ≤ (m367 a0 45) ∧ (m367 a0 45) ≤ 96 := zi_rd hIm367 hc0 zb_28_45
          have e369 : (m367 a0 45) = (m362 a0 45) := (zs_ne hmm367 (Or.inl (zc_ne hc0 zq_211 (by decide))))
          have w370 := zu_w32_id (z := (m367 a0 45) + 1) (by omega) (by omega)
          generalize hmm371 : zu_up m367 a0 45 (zu_w32 ((m367 a0 45) + 1)) = m371
          have hIm371 := zi_up hmm371 hIm367 hc0 zb_28_45 (by omega) (by omega)
          have hFm371 := zfr_up hmm371 hFm367 hc0 rfl
          have hLm371 := zlot_i hmm371 hLm367 hc0 (by decide)
          have hRKNm371 := zR_KN_fr (zdis_fr (zfr_up hmm371 (zfr_rf [(28, 46)] _) hc0 rfl) rfl) hRKNm367
          have hRNSm371 := zR_NS_fr (zdis_fr (zfr_up hmm371 (zfr_rf [(28, 46)] _) hc0 rfl) rfl) hRNSm367
          have hRTRm371 := zR_TR_fr (zdis_fr (zfr_up hmm371 (zfr_rf [(28, 46)] _) hc0 rfl) rfl) hRTRm367
          have hRWDm371 := zR_WD_fr (zdis_fr (zfr_up hmm371 (zfr_rf [(28, 46)] _) hc0 rfl) rfl) hRWDm367
          have g372 := zwt_push hmm367 hmm371 hc0 (by omega) (by omega) (by omega)
          have g373 := zwt_bd hIm371 hc0
          refine zw_some ?_
          refine zw_b (by omega) ?_
          generalize hmm374 : zu_up m371 a0 50 1 = m374
          have hIm374 := zi_up hmm374 hIm371 hc0 zb_28_50 (by omega) (by omega)
          have hFm374 := zfr_up hmm374 hFm371 hc0 rfl
          have hLm374 := zlot_i hmm374 hLm371 hc0 (by decide)
          have g375 := zwt_fr (zdis_fr (zfr_up hmm374 (zfr_rf [(28, 51)] _) hc0 rfl) rfl)
          have hRKNm374 := zR_KN_fr (zdis_fr (zfr_up hmm374 (zfr_rf [(28, 51)] _) hc0 rfl) rfl) hRKNm371
          have hRNSm374 := zR_NS_fr (zdis_fr (zfr_up hmm374 (zfr_rf [(28, 51)] _) hc0 rfl) rfl) hRNSm371
          have hRTRm374 := zR_TR_fr (zdis_fr (zfr_up hmm374 (zfr_rf [(28, 51)] _) hc0 rfl) rfl) hRTRm371
          have hRWDm374 := zR_WD_fr (zdis_fr (zfr_up hmm374 (zfr_rf [(28, 51)] _) hc0 rfl) rfl) hRWDm371
          have r378 : 0 ≤ (m374 a0 7) ∧ (m374 a0 7) ≤ 700 := zi_rd hIm374 hc0 zb_28_7
          have e379 : (m374 a0 7) = (m0 a0 7) := (Eq.trans (zs_ne hmm374 (Or.inr (by decide))) (Eq.trans (zs_ne hmm371 (Or.inr (by decide))) (Eq.trans (zs_ne hmm367 (Or.inl (zc_ne hc0 zq_211 (by decide)))) (zs_ne hmm362 (Or.inr (by decide))))))
          refine zw_bd (zw_mono (zk_89 n hIm374 hc0 hRNSm374 hRWDm374) (fun v377 m376 hqm376 => ?_))
          obtain ⟨hIm376, hfm376, hvm376⟩ := hqm376
          have hFm376 := zfr_tr hFm374 hfm376 rfl
          have hLm376 := zlot_go hLm374 (zlot_f hfm376 rfl)
          obtain ⟨hRNSm376, hRTRm376, hRWDm376, hvm376⟩ := hvm376
          have g380 := zwt_fr (zdis_fr hfm376 rfl)
          have hRKNm376 := zR_KN_fr (zdis_fr hfm376 rfl) hRKNm374
          have g381 := zwt_bd hIm376 hc0
          have s382 := hRNSm376 a0 hc0
          have r383 : 0 ≤ (m376 a0 7) ∧ (m376 a0 7) ≤ 700 := zi_rd hIm376 hc0 zb_28_7
          have r384 : 0 ≤ (m376 a0 8) ∧ (m376 a0 8) ≤ 6 := zi_rd hIm376 hc0 zb_28_8
          refine zw_b (by omega) ?_
          have r385 : 0 ≤ (m376 a0 21) ∧ (m376 a0 21) ≤ 64 := zi_rd hIm376 hc0 zb_28_21
          have e386 : (m376 a0 21) = (m0 a0 21) := (Eq.trans (zfr_ap hfm376 hc0 rfl) (Eq.trans (zs_ne hmm374 (Or.inr (by decide))) (Eq.trans (zs_ne hmm371 (Or.inr (by decide))) (Eq.trans (zs_ne hmm367 (Or.inl (zc_ne hc0 zq_211 (by decide)))) (zs_ne hmm362 (Or.inr (by decide)))))))
          have r387 : 0 ≤ (m376 a0 48) ∧ (m376 a0 48) ≤ 64 := zi_rd hIm376 hc0 zb_28_48
          have e388 : (m376 a0 48) = (m0 a0 48) := (Eq.trans (zfr_ap hfm376 hc0 rfl) (Eq.trans (zs_ne hmm374 (Or.inr (by decide))) (Eq.trans (zs_ne hmm371 (Or.inr (by decide))) (Eq.trans (zs_ne hmm367 (Or.inl (zc_ne hc0 zq_211 (by decide)))) (zs_ne hmm362 (Or.inr (by decide)))))))
          have r389 : 0 ≤ (m376 a0 46) ∧ (m376 a0 46) ≤ 96 := zi_rd hIm376 hc0 zb_28_46
          have e390 : (m376 a0 46) = (m0 a0 46) := (Eq.trans (zfr_ap hfm376 hc0 rfl) (Eq.trans (zs_ne hmm374 (Or.inr (by decide))) (Eq.trans (zs_ne hmm371 (Or.inr (by decide))) (Eq.trans (zs_ne hmm367 (Or.inl (zc_ne hc0 zq_211 (by decide)))) (zs_ne hmm362 (Or.inr (by decide)))))))
          have r391 : 0 ≤ (m376 a0 49) ∧ (m376 a0 49) ≤ 1 := zi_rd hIm376 hc0 zb_28_49
          have e392 : (m376 a0 49) = (m0 a0 49) := (Eq.trans (zfr_ap hfm376 hc0 rfl) (Eq.trans (zs_ne hmm374 (Or.inr (by decide))) (Eq.trans (zs_ne hmm371 (Or.inr (by decide))) (Eq.trans (zs_ne hmm367 (Or.inl (zc_ne hc0 zq_211 (by decide)))) (zs_ne hmm362 (Or.inr (by decide)))))))
          have r393 : 0 ≤ (m376 a0 45) ∧ (m376 a0 45) ≤ 96 := zi_rd hIm376 hc0 zb_28_45
          have e394 : (m376 a0 45) = (zu_w32 ((m367 a0 45) + 1)) := (Eq.trans (zfr_ap hfm376 hc0 rfl) (Eq.trans (zs_ne hmm374 (Or.inr (by decide))) (zs_eq hmm371)))
          have r395 : 0 ≤ (m376 a0 47) ∧ (m376 a0 47) ≤ 8 := zi_rd hIm376 hc0 zb_28_47
          have e396 : (m376 a0 47) = (zu_w32 ((m0 a0 47) + 1)) := (Eq.trans (zfr_ap hfm376 hc0 rfl) (Eq.trans (zs_ne hmm374 (Or.inr (by decide))) (Eq.trans (zs_ne hmm371 (Or.inr (by decide))) (Eq.trans (zs_ne hmm367 (Or.inl (zc_ne hc0 zq_211 (by decide)))) (zs_eq hmm362)))))
          have r397 : (-2147483648) ≤ (m376 a0 4) ∧ (m376 a0 4) ≤ 2147483647 := zi_rd hIm376 hc0 zb_28_4
          have e398 : (m376 a0 4) = (m0 a0 4) := (Eq.trans (zfr_ap hfm376 hc0 rfl) (Eq.trans (zs_ne hmm374 (Or.inr (by decide))) (Eq.trans (zs_ne hmm371 (Or.inr (by decide))) (Eq.trans (zs_ne hmm367 (Or.inl (zc_ne hc0 zq_211 (by decide)))) (zs_ne hmm362 (Or.inr (by decide)))))))
          exact zw_some ⟨hIm376, hFm376, hLm376, hRKNm376, hRNSm376, hRTRm376, hRWDm376, ⟨by decide, by decide⟩, by omega, fun _ => by omega, fun _ => by omega, fun _ => by omega, fun _ => by omega, fun _ => by omega, fun _ => by omega, fun h => absurd h (by decide)⟩
        · refine zw_bd (zw_eq (zu_call_at (zt_T n) (zm_85 n) (zdp_85 n) _ _ _ _ _ rfl (zr_85_0 n _ _ a0 2 m0)) ?_)
          generalize hmm399 : zu_up m0 a0 4 2 = m399
          have hIm399 := zi_up hmm399 hIm0 hc0 zb_28_4 (by omega) (by omega)
          have hFm399 := zfr_up hmm399 hFm0 hc0 rfl
          have hLm399 := zlot_i hmm399 hLm0 hc0 (by decide)
          have g400 := zwt_fr (zdis_fr (zfr_up hmm399 (zfr_rf [(28, 5)] _) hc0 rfl) rfl)
          have hRKNm399 := zR_KN_fr (zdis_fr (zfr_up hmm399 (zfr_rf [(28, 5)] _) hc0 rfl) rfl) hRKNm0
          have hRNSm399 := zR_NS_fr (zdis_fr (zfr_up hmm399 (zfr_rf [(28, 5)] _) hc0 rfl) rfl) hRNSm0
          have hRTRm399 := zR_TR_fr (zdis_fr (zfr_up hmm399 (zfr_rf [(28, 5)] _) hc0 rfl) rfl) hRTRm0
          have hRWDm399 := zR_WD_fr (zdis_fr (zfr_up hmm399 (zfr_rf [(28, 5)] _) hc0 rfl) rfl) hRWDm0
          have hRLRm399 := zLR_wr (zone_190 hc0) hmm399 (by decide)
          have r401 : 0 ≤ (m399 a0 10) ∧ (m399 a0 10) ≤ 700 := zi_rd hIm399 hc0 zb_28_10
          generalize hmm402 : zu_up m399 a0 5 (m399 a0 10) = m402
          have hIm402 := zi_up hmm402 hIm399 hc0 zb_28_5 (by omega) (by omega)
          have hFm402 := zfr_up hmm402 hFm399 hc0 rfl
          have hLm402 := zlot_i hmm402 hLm399 hc0 (by decide)
          have g403 := zwt_fr (zdis_fr (zfr_up hmm402 (zfr_rf [(28, 6)] _) hc0 rfl) rfl)
          have hRKNm402 := zR_KN_fr (zdis_fr (zfr_up hmm402 (zfr_rf [(28, 6)] _) hc0 rfl) rfl) hRKNm399
          have hRLRm402 := zR_LR_fr (zdis_fr (zfr_up hmm402 (zfr_rf [(28, 6)] _) hc0 rfl) rfl) hRLRm399
          have hRNSm402 := zR_NS_fr (zdis_fr (zfr_up hmm402 (zfr_rf [(28, 6)] _) hc0 rfl) rfl) hRNSm399
          have hRTRm402 := zR_TR_fr (zdis_fr (zfr_up hmm402 (zfr_rf [(28, 6)] _) hc0 rfl) rfl) hRTRm399
          have hRWDm402 := zR_WD_fr (zdis_fr (zfr_up hmm402 (zfr_rf [(28, 6)] _) hc0 rfl) rfl) hRWDm399
          refine zw_b (by omega) ?_
          refine zw_some ?_
          refine zw_b (by omega) ?_
          have r404 : 0 ≤ (m402 a0 7) ∧ (m402 a0 7) ≤ 700 := zi_rd hIm402 hc0 zb_28_7
          have e405 : (m402 a0 7) = (m0 a0 7) := (Eq.trans (zs_ne hmm402 (Or.inr (by decide))) (zs_ne hmm399 (Or.inr (by decide))))
          have r406 : 0 ≤ (m402 a0 8) ∧ (m402 a0 8) ≤ 6 := zi_rd hIm402 hc0 zb_28_8
          have e407 : (m402 a0 8) = (m0 a0 8) := (Eq.trans (zs_ne hmm402 (Or.inr (by decide))) (zs_ne hmm399 (Or.inr (by decide))))
          have r408 : 0 ≤ (m402 a0 21) ∧ (m402 a0 21) ≤ 64 := zi_rd hIm402 hc0 zb_28_21
          have e409 : (m402 a0 21) = (m0 a0 21) := (Eq.trans (zs_ne hmm402 (Or.inr (by decide))) (zs_ne hmm399 (Or.inr (by decide))))
          have r410 : 0 ≤ (m402 a0 48) ∧ (m402 a0 48) ≤ 64 := zi_rd hIm402 hc0 zb_28_48
          have e411 : (m402 a0 48) = (m0 a0 48) := (Eq.trans (zs_ne hmm402 (Or.inr (by decide))) (zs_ne hmm399 (Or.inr (by decide))))
          have r412 : 0 ≤ (m402 a0 46) ∧ (m402 a0 46) ≤ 96 := zi_rd hIm402 hc0 zb_28_46
          have e413 : (m402 a0 46) = (m0 a0 46) := (Eq.trans (zs_ne hmm402 (Or.inr (by decide))) (zs_ne hmm399 (Or.inr (by decide))))
          have r414 : 0 ≤ (m402 a0 49) ∧ (m402 a0 49) ≤ 1 := zi_rd hIm402 hc0 zb_28_49
          have e415 : (m402 a0 49) = (m0 a0 49) := (Eq.trans (zs_ne hmm402 (Or.inr (by decide))) (zs_ne hmm399 (Or.inr (by decide))))
          have r416 : 0 ≤ (m402 a0 45) ∧ (m402 a0 45) ≤ 96 := zi_rd hIm402 hc0 zb_28_45
          have e417 : (m402 a0 45) = (m0 a0 45) := (Eq.trans (zs_ne hmm402 (Or.inr (by decide))) (zs_ne hmm399 (Or.inr (by decide))))
          have r418 : 0 ≤ (m402 a0 47) ∧ (m402 a0 47) ≤ 8 := zi_rd hIm402 hc0 zb_28_47
          have e419 : (m402 a0 47) = (m0 a0 47) := (Eq.trans (zs_ne hmm402 (Or.inr (by decide))) (zs_ne hmm399 (Or.inr (by decide))))
          have r420 : (-2147483648) ≤ (m402 a0 4) ∧ (m402 a0 4) ≤ 2147483647 := zi_rd hIm402 hc0 zb_28_4
          have e421 : (m402 a0 4) = 2 := (Eq.trans (zs_ne hmm402 (Or.inr (by decide))) (zs_eq hmm399))
          exact zw_some ⟨hIm402, hFm402, hLm402, hRKNm402, hRNSm402, hRTRm402, hRWDm402, ⟨by decide, by decide⟩, by omega, fun h => absurd h (by decide), fun h => absurd h (by decide), fun h => absurd h (by decide), fun h => absurd h (by decide), fun h => absurd h (by decide), fun h => absurd h (by decide), fun _ => by omega⟩
set_option maxHeartbeats 4000000 in
theorem zl_117H0k (n : Nat) {a0 : Int} {m0 : zu_m} (hc0 : zcls a0 = 28)  (hxp0 : (m0 a0 21) + znz m0 = (m0 a0 48)) (hxp1 : (m0 a0 45) = znz m0 + (m0 a0 47)) (hxp2 : (m0 a0 46) = zbi m0 + 1) (hxp3 : (m0 a0 49) = 0) (hxp4 : 1 ≤ (m0 a0 21)) (k : Nat) (ih : (∀ (mh : zu_m), zi_I mh → zfr [(28, 5), (28, 6), (28, 8), (28, 9), (28, 10), (28, 11), (28, 22), (28, 46), (28, 47), (28, 48), (28, 49), (28, 50), (28, 51), (117, 0), (118, 0), (119, 0), (120, 0), (121, 0)] m0 mh → zlot m0 mh → (0 ≤ mh a0 49 ∧ mh a0 49 ≤ 0) → ((mh a0 21) + znz mh = (mh a0 48)) → ((mh a0 45) = znz mh + (mh a0 47)) → ((mh a0 46) = zbi mh + 1) → (1 ≤ (mh a0 21)) → ((mh a0 7) = (m0 a0 7)) → ((mh a0 8) = (m0 a0 8)) → ((mh a0 4) = (m0 a0 4)) → (zR_KN mh) → (zR_NS mh) → (zR_TR mh) → (zR_WD mh) → 2 < (k : Int) → zw (zu_ex (zt_T n) 117 47 [(40, a0), (2, 0)] [] mh) (fun v m => zi_I m ∧ zfr [(28, 5), (28, 6), (28, 8), (28, 9), (28, 10), (28, 11), (28, 22), (28, 46), (28, 47), (28, 48), (28, 49), (28, 50), (28, 51), (117, 0), (118, 0), (119, 0), (120, 0), (121, 0)] m0 m ∧ zlot m0 m ∧ zR_KN m ∧ zR_NS m ∧ zR_TR m ∧ zR_WD m ∧ (0 ≤ v ∧ v ≤ 1) ∧ ((m0 a0 7) ≤ (m a0 7)) ∧ (v = 1 → ((m0 a0 8) ≠ 0 ∧ ((m a0 8) = 0 ∨ (m0 a0 7) < (m a0 7)))) ∧ (v = 1 → (m a0 21) + znz m = (m a0 48)) ∧ (v = 1 → (m a0 46) + (m a0 49) = zbi m + 1) ∧ (v = 1 → (m a0 45) = znz m + (m a0 47)) ∧ (v = 1 → ((m a0 49) = 0 → 1 ≤ (m a0 21))) ∧ (v = 1 → (m a0 4) = (m0 a0 4)) ∧ (v = 0 → (m a0 4) ≠ 0))) ∧ (∀ (y0 : Int) (mh : zu_m), zi_I mh → zfr [(28, 5), (28, 6), (28, 8), (28, 9), (28, 10), (28, 11), (28, 22), (28, 46), (28, 47), (28, 48), (28, 49), (28, 50), (28, 51), (117, 0), (118, 0), (119, 0), (120, 0), (121, 0)] m0 mh → zlot m0 mh → (0 ≤ y0 ∧ y0 ≤ 14) → (0 ≤ mh a0 49 ∧ mh a0 49 ≤ 0) → ((mh a0 21) + znz mh = (mh a0 48)) → ((mh a0 45) = znz mh + (mh a0 47)) → ((mh a0 46) = zbi mh + 1) → (1 ≤ (mh a0 21)) → ((mh a0 7) = (m0 a0 7)) → (y0 ≠ 0 → (m0 a0 8) ≠ 0) → (y0 = 0 ∨ 3 ≤ y0) → ((mh a0 4) = (m0 a0 4)) → (zR_KN mh) → (zR_NS mh) → (zR_TR mh) → (zR_WD mh) → 1 < (k : Int) → zw (zu_ex (zt_T n) 117 147 [(40, a0), (2, 0)] [(0, y0)] mh) (fun v m => zi_I m ∧ zfr [(28, 5), (28, 6), (28, 8), (28, 9), (28, 10), (28, 11), (28, 22), (28, 46), (28, 47), (28, 48), (28, 49), (28, 50), (28, 51), (117, 0), (118, 0), (119, 0), (120, 0), (121, 0)] m0 m ∧ zlot m0 m ∧ zR_KN m ∧ zR_NS m ∧ zR_TR m ∧ zR_WD m ∧ (0 ≤ v ∧ v ≤ 1) ∧ ((m0 a0 7) ≤ (m a0 7)) ∧ (v = 1 → ((m0 a0 8) ≠ 0 ∧ ((m a0 8) = 0 ∨ (m0 a0 7) < (m a0 7)))) ∧ (v = 1 → (m a0 21) + znz m = (m a0 48)) ∧ (v = 1 → (m a0 46) + (m a0 49) = zbi m + 1) ∧ (v = 1 → (m a0 45) = znz m + (m a0 47)) ∧ (v = 1 → ((m a0 49) = 0 → 1 ≤ (m a0 21))) ∧ (v = 1 → (m a0 4) = (m0 a0 4)) ∧ (v = 0 → (m a0 4) ≠ 0))) ∧ (∀ (x1 : Int) (mh : zu_m), zi_I mh → zfr [(28, 5), (28, 6), (28, 8), (28, 9), (28, 10), (28, 11), (28, 22), (28, 46), (28, 47), (28, 48), (28, 49), (28, 50), (28, 51), (117, 0), (118, 0), (119, 0), (120, 0), (121, 0)] m0 mh → zlot m0 mh → (1 ≤ x1 ∧ x1 ≤ 14) → (0 ≤ mh a0 49 ∧ mh a0 49 ≤ 0) → ((mh a0 21) + znz mh = (mh a0 48)) → ((mh a0 45) = znz mh + (mh a0 47)) → ((mh a0 46) = zbi mh + 1) → (1 ≤ (mh a0 21)) → ((mh a0 7) = (m0 a0 7)) → ((m0 a0 8) ≠ 0) → (3 ≤ x1) → ((mh a0 4) = (m0 a0 4)) → (zR_KN mh) → (zR_NS mh) → (zR_TR mh) → (zR_WD mh) → 0 < (k : Int) → zw (zu_ex (zt_T n) 117 217 [(40, a0), (0, x1)] [] mh) (fun v m => zi_I m ∧ zfr [(28, 5), (28, 6), (28, 8), (28, 9), (28, 10), (28, 11), (28, 22), (28, 46), (28, 47), (28, 48), (28, 49), (28, 50), (28, 51), (117, 0), (118, 0), (119, 0), (120, 0), (121, 0)] m0 m ∧ zlot m0 m ∧ zR_KN m ∧ zR_NS m ∧ zR_TR m ∧ zR_WD m ∧ (0 ≤ v ∧ v ≤ 1) ∧ ((m0 a0 7) ≤ (m a0 7)) ∧ (v = 1 → ((m0 a0 8) ≠ 0 ∧ ((m a0 8) = 0 ∨ (m0 a0 7) < (m a0 7)))) ∧ (v = 1 → (m a0 21) + znz m = (m a0 48)) ∧ (v = 1 → (m a0 46) + (m a0 49) = zbi m + 1) ∧ (v = 1 → (m a0 45) = znz m + (m a0 47)) ∧ (v = 1 → ((m a0 49) = 0 → 1 ≤ (m a0 21))) ∧ (v = 1 → (m a0 4) = (m0 a0 4)) ∧ (v = 0 → (m a0 4) ≠ 0)))) : (∀ (mh : zu_m), zi_I mh → zfr [(28, 5), (28, 6), (28, 8), (28, 9), (28, 10), (28, 11), (28, 22), (28, 46), (28, 47), (28, 48), (28, 49), (28, 50), (28, 51), (117, 0), (118, 0), (119, 0), (120, 0), (121, 0)] m0 mh → zlot m0 mh → (0 ≤ mh a0 49 ∧ mh a0 49 ≤ 0) → ((mh a0 21) + znz mh = (mh a0 48)) → ((mh a0 45) = znz mh + (mh a0 47)) → ((mh a0 46) = zbi mh + 1) → (1 ≤ (mh a0 21)) → ((mh a0 7) = (m0 a0 7)) → ((mh a0 8) = (m0 a0 8)) → ((mh a0 4) = (m0 a0 4)) → (zR_KN mh) → (zR_NS mh) → (zR_TR mh) → (zR_WD mh) → 2 < ((k + 1 : Nat) : Int) → zw (zu_ex (zt_T n) 117 47 [(40, a0), (2, 0)] [] mh) (fun v m => zi_I m ∧ zfr [(28, 5), (28, 6), (28, 8), (28, 9), (28, 10), (28, 11), (28, 22), (28, 46), (28, 47), (28, 48), (28, 49), (28, 50), (28, 51), (117, 0), (118, 0), (119, 0), (120, 0), (121, 0)] m0 m ∧ zlot m0 m ∧ zR_KN m ∧ zR_NS m ∧ zR_TR m ∧ zR_WD m ∧ (0 ≤ v ∧ v ≤ 1) ∧ ((m0 a0 7) ≤ (m a0 7)) ∧ (v = 1 → ((m0 a0 8) ≠ 0 ∧ ((m a0 8) = 0 ∨ (m0 a0 7) < (m a0 7)))) ∧ (v = 1 → (m a0 21) + znz m = (m a0 48)) ∧ (v = 1 → (m a0 46) + (m a0 49) = zbi m + 1) ∧ (v = 1 → (m a0 45) = znz m + (m a0 47)) ∧ (v = 1 → ((m a0 49) = 0 → 1 ≤ (m a0 21))) ∧ (v = 1 → (m a0 4) = (m0 a0 4)) ∧ (v = 0 → (m a0 4) ≠ 0))) := by
      intro mh hImh hFmh hLmh hg0 hH0 hH1 hH2 hH3 hH4 hH5 hH6 hRKNmh hRNSmh hRTRmh hRWDmh hM
      refine zw_eq (zu_rega_at (zt_T n) (zm_117 n) (zdp_117 n) _ _ _ _ _ _ (zr_117_47 n _ _ a0 mh)) ?_
      have r1 : 0 ≤ (mh a0 21) ∧ (mh a0 21) ≤ 64 := zi_rd hImh hc0 zb_28_21
      have r2 : 0 ≤ (mh a0 48) ∧ (mh a0 48) ≤ 64 := zi_rd hImh hc0 zb_28_48
      have r3 : 0 ≤ (mh a0 45) ∧ (mh a0 45) ≤ 96 := zi_rd hImh hc0 zb_28_45
      have r4 : 0 ≤ (mh a0 47) ∧ (mh a0 47) ≤ 8 := zi_rd hImh hc0 zb_28_47
      have r5 : 0 ≤ (mh a0 46) ∧ (mh a0 46) ≤ 96 := zi_rd hImh hc0 zb_28_46
      have r6 : 0 ≤ (mh a0 7) ∧ (mh a0 7) ≤ 700 := zi_rd hImh hc0 zb_28_7
      have r7 : 0 ≤ (mh a0 8) ∧ (mh a0 8) ≤ 6 := zi_rd hImh hc0 zb_28_8
      have r8 : (-2147483648) ≤ (mh a0 4) ∧ (mh a0 4) ≤ 2147483647 := zi_rd hImh hc0 zb_28_4
      have g9 := zwt_bd hImh hc0
      have s10 := hRNSmh a0 hc0
      refine zw_bd (zw_eq (zu_call_at (zt_T n) (zm_92 n) (zdp_92 n) _ _ _ _ _ rfl (zr_92_0 n _ _ a0 23 mh)) ?_)
      refine zw_ite (fun h11 => ?_) (fun h11 => ?_)
      · refine zw_b (by omega) ?_
        refine zw_some ?_
        refine zw_ite (fun h13 => ?_) (fun h13 => ?_)
        · refine zw_bd (zw_eq (zu_call_at (zt_T n) (zm_92 n) (zdp_92 n) _ _ _ _ _ rfl (zr_92_0 n _ _ a0 24 mh)) ?_)
          refine zw_ite (fun h14 => ?_) (fun h14 => ?_)
          · refine zw_b (by omega) ?_
            refine zw_some ?_
            refine zw_ite (fun h15 => ?_) (fun h15 => ?_)
            · refine zw_ite (fun h16 => ?_) (fun h16 => ?_)
              · refine zw_bd (zw_eq (zu_call_at (zt_T n) (zm_93 n) (zdp_93 n) _ _ _ _ _ rfl (zr_93_0 n _ _ a0 43 mh)) ?_)
                refine zw_ite (fun h18 => ?_) (fun h18 => ?_)
                · refine zw_b (by omega) ?_
                  refine zw_some ?_
                  refine zw_ite (fun h19 => ?_) (fun h19 => ?_)
                  · refine zw_bd (zw_eq (zu_call_at (zt_T n) (zm_93 n) (zdp_93 n) _ _ _ _ _ rfl (zr_93_0 n _ _ a0 45 mh)) ?_)
                    refine zw_ite (fun h20 => ?_) (fun h20 => ?_)
                    · refine zw_b (by omega) ?_
                      refine zw_some ?_
                      refine zw_ite (fun h21 => ?_) (fun h21 => ?_)
                      · refine zw_bd (zw_eq (zu_call_at (zt_T n) (zm_93 n) (zdp_93 n) _ _ _ _ _ rfl (zr_93_0 n _ _ a0 42 mh)) ?_)
                        refine zw_ite (fun h22 => ?_) (fun h22 => ?_)
                        · refine zw_b (by omega) ?_
                          refine zw_some ?_
                          refine zw_ite (fun h23 => ?_) (fun h23 => ?_)
                          · refine zw_bd (zw_eq (zu_call_at (zt_T n) (zm_93 n) (zdp_93 n) _ _ _ _ _ rfl (zr_93_0 n _ _ a0 47 mh)) ?_)
                            refine zw_ite (fun h24 => ?_) (fun h24 => ?_)
                            · refine zw_b (by omega) ?_
                              refine zw_some ?_
                              refine zw_ite (fun h25 => ?_) (fun h25 => ?_)
                              · have hM : 1 < (k : Int) := by omega
                                exact ih.2.1 0 mh hImh hFmh hLmh ⟨by omega, by omega⟩ ⟨by omega, by omega⟩ (by omega) (by omega) (by omega) (by omega) (by omega) (by omega) (by omega) (by omega) hRKNmh hRNSmh hRTRmh hRWDmh hM
                              · exfalso; omega
                            · exfalso; omega
                          · exfalso; omega
                        · exfalso; omega
                      · exfalso; omega
                    · exfalso; omega
                  · exfalso; omega
                · have r26 : (-2147483648) ≤ (mh a0 9) ∧ (mh a0 9) ≤ 2147483647 := zi_rd hImh hc0 zb_28_9
                  refine zw_ite (fun h27 => ?_) (fun h27 => ?_)
                  · refine zw_b (by omega) ?_
                    refine zw_some ?_
                    refine zw_ite (fun h28 => ?_) (fun h28 => ?_)
                    · refine zw_bd (zw_eq (zu_call_at (zt_T n) (zm_93 n) (zdp_93 n) _ _ _ _ _ rfl (zr_93_0 n _ _ a0 45 mh)) ?_)
                      refine zw_ite (fun h29 => ?_) (fun h29 => ?_)
                      · exfalso; omega
                      · refine zw_ite (fun h30 => ?_) (fun h30 => ?_)
                        · refine zw_b (by omega) ?_
                          refine zw_some ?_
                          refine zw_ite (fun h31 => ?_) (fun h31 => ?_)
                          · refine zw_bd (zw_eq (zu_call_at (zt_T n) (zm_93 n) (zdp_93 n) _ _ _ _ _ rfl (zr_93_0 n _ _ a0 42 mh)) ?_)
                            refine zw_ite (fun h32 => ?_) (fun h32 => ?_)
                            · exfalso; omega
                            · refine zw_ite (fun h33 => ?_) (fun h33 => ?_)
                              · refine zw_b (by omega) ?_
                                refine zw_some ?_
                                refine zw_ite (fun h34 => ?_) (fun h34 => ?_)
                                · refine zw_bd (zw_eq (zu_call_at (zt_T n) (zm_93 n) (zdp_93 n) _ _ _ _ _ rfl (zr_93_0 n _ _ a0 47 mh)) ?_)
                                  refine zw_ite (fun h35 => ?_) (fun h35 => ?_)
                                  · exfalso; omega
                                  · refine zw_ite (fun h36 => ?_) (fun h36 => ?_)
                                    · refine zw_b (by omega) ?_
                                      refine zw_some ?_
                                      refine zw_ite (fun h37 => ?_) (fun h37 => ?_)
                                      · have hM : 1 < (k : Int) := by omega
                                        exact ih.2.1 0 mh hImh hFmh hLmh ⟨by omega, by omega⟩ ⟨by omega, by omega⟩ (by omega) (by omega) (by omega) (by omega) (by omega) (by omega) (by omega) (by omega) hRKNmh hRNSmh hRTRmh hRWDmh hM
                                      · exfalso; omega
                                    · refine zw_b (by omega) ?_
                                      refine zw_some ?_
                                      refine zw_ite (fun h38 => ?_) (fun h38 => ?_)
                                      · exfalso; omega
                                      · have hM : 1 < (k : Int) := by omega
                                        exact ih.2.1 14 mh hImh hFmh hLmh ⟨by omega, by omega⟩ ⟨by omega, by omega⟩ (by omega) (by omega) (by omega) (by omega) (by omega) (by omega) (by omega) (by omega) hRKNmh hRNSmh hRTRmh hRWDmh hM
                                · exfalso; omega
                              · refine zw_b (by omega) ?_
                                refine zw_some ?_
                                refine zw_ite (fun h39 => ?_) (fun h39 => ?_)
                                · exfalso; omega
                                · have hM : 1 < (k : Int) := by omega
                                  exact ih.2.1 13 mh hImh hFmh hLmh ⟨by omega, by omega⟩ ⟨by omega, by omega⟩ (by omega) (by omega) (by omega) (by omega) (by omega) (by omega) (by omega) (by omega) hRKNmh hRNSmh hRTRmh hRWDmh hM
                          · exfalso; omega
                        · refine zw_b (by omega) ?_
                          refine zw_some ?_
                          refine zw_ite (fun h40 => ?_) (fun h40 => ?_)
                          · exfalso; omega
                          · have hM : 1 < (k : Int) := by omega
                            exact ih.2.1 12 mh hImh hFmh hLmh ⟨by omega, by omega⟩ ⟨by omega, by omega⟩ (by omega) (by omega) (by omega) (by omega) (by omega) (by omega) (by omega) (by omega) hRKNmh hRNSmh hRTRmh hRWDmh hM
                    · exfalso; omega
                  · refine zw_b (by omega) ?_
                    refine zw_some ?_
                    refine zw_ite (fun h41 => ?_) (fun h41 => ?_)
                    · exfalso; omega
                    · have hM : 1 < (k : Int) := by omega
                      exact ih.2.1 11 mh hImh hFmh hLmh ⟨by omega, by omega⟩ ⟨by omega, by omega⟩ (by omega) (by omega) (by omega) (by omega) (by omega) (by omega) (by omega) (by omega) hRKNmh hRNSmh hRTRmh hRWDmh hM
              · have s17 := (hRTRmh a0 hc0).1 (by omega)
                have w42 := zu_w32_id (z := 5 + (mh a0 9)) (by omega) (by omega)
                have hM : 1 < (k : Int) := by omega
                exact ih.2.1 (zu_w32 (5 + (mh a0 9))) mh hImh hFmh hLmh ⟨by omega, by omega⟩ ⟨by omega, by omega⟩ (by omega) (by omega) (by omega) (by omega) (by omega) (by omega) (by omega) (by omega) hRKNmh hRNSmh hRTRmh hRWDmh hM
            · exfalso; omega
          · exfalso; omega
        · exfalso; omega
      · have s12 := (hRTRmh a0 hc0).2.1 (by omega)
        refine zw_ite (fun h43 => ?_) (fun h43 => ?_)
        · refine zw_b (by omega) ?_
          refine zw_some ?_
          refine zw_ite (fun h44 => ?_) (fun h44 => ?_)
          · refine zw_bd (zw_eq (zu_call_at (zt_T n) (zm_92 n) (zdp_92 n) _ _ _ _ _ rfl (zr_92_0 n _ _ a0 24 mh)) ?_)
            refine zw_ite (fun h45 => ?_) (fun h45 => ?_)
            · exfalso; omega
            · have s46 := (hRTRmh a0 hc0).2.1 (by omega)
              refine zw_ite (fun h47 => ?_) (fun h47 => ?_)
              · refine zw_b (by omega) ?_
                refine zw_some ?_
                refine zw_ite (fun h48 => ?_) (fun h48 => ?_)
                · refine zw_ite (fun h49 => ?_) (fun h49 => ?_)
                  · have s50 := (hRTRmh a0 hc0).2.1 (by omega)
                    refine zw_bd (zw_eq (zu_call_at (zt_T n) (zm_93 n) (zdp_93 n) _ _ _ _ _ rfl (zr_93_0 n _ _ a0 43 mh)) ?_)
                    refine zw_ite (fun h51 => ?_) (fun h51 => ?_)
                    · have s52 := (hRTRmh a0 hc0).2.1 (by omega)
                      refine zw_b (by omega) ?_
                      refine zw_some ?_
                      refine zw_ite (fun h53 => ?_) (fun h53 => ?_)
                      · refine zw_bd (zw_eq (zu_call_at (zt_T n) (zm_93 n) (zdp_93 n) _ _ _ _ _ rfl (zr_93_0 n _ _ a0 45 mh)) ?_)
                        refine zw_ite (fun h54 => ?_) (fun h54 => ?_)
                        · have s55 := (hRTRmh a0 hc0).2.1 (by omega)
                          refine zw_b (by omega) ?_
                          refine zw_some ?_
                          refine zw_ite (fun h56 => ?_) (fun h56 => ?_)
                          · refine zw_bd (zw_eq (zu_call_at (zt_T n) (zm_93 n) (zdp_93 n) _ _ _ _ _ rfl (zr_93_0 n _ _ a0 42 mh)) ?_)
                            refine zw_ite (fun h57 => ?_) (fun h57 => ?_)
                            · have s58 := (hRTRmh a0 hc0).2.1 (by omega)
                              refine zw_b (by omega) ?_
                              refine zw_some ?_
                              refine zw_ite (fun h59 => ?_) (fun h59 => ?_)
                              · refine zw_bd (zw_eq (zu_call_at (zt_T n) (zm_93 n) (zdp_93 n) _ _ _ _ _ rfl (zr_93_0 n _ _ a0 47 mh)) ?_)
                                refine zw_ite (fun h60 => ?_) (fun h60 => ?_)
                                · have s61 := (hRTRmh a0 hc0).2.1 (by omega)
                                  refine zw_b (by omega) ?_
                                  refine zw_some ?_
                                  refine zw_ite (fun h62 => ?_) (fun h62 => ?_)
                                  · have hM : 1 < (k : Int) := by omega
                                    exact ih.2.1 0 mh hImh hFmh hLmh ⟨by omega, by omega⟩ ⟨by omega, by omega⟩ (by omega) (by omega) (by omega) (by omega) (by omega) (by omega) (by omega) (by omega) hRKNmh hRNSmh hRTRmh hRWDmh hM
                                  · exfalso; omega
                                · exfalso; omega
                              · exfalso; omega
                            · exfalso; omega
                          · exfalso; omega
                        · exfalso; omega
                      · exfalso; omega
                    · exfalso; omega
                  · exfalso; omega
                · exfalso; omega
              · refine zw_b (by omega) ?_
                refine zw_some ?_
                refine zw_ite (fun h63 => ?_) (fun h63 => ?_)
                · exfalso; omega
                · have hM : 1 < (k : Int) := by omega
                  exact ih.2.1 4 mh hImh hFmh hLmh ⟨by omega, by omega⟩ ⟨by omega, by omega⟩ (by omega) (by omega) (by omega) (by omega) (by omega) (by omega) (by omega) (by omega) hRKNmh hRNSmh hRTRmh hRWDmh hM
          · exfalso; omega
        · refine zw_b (by omega) ?_
          refine zw_some ?_
          refine zw_ite (fun h64 => ?_) (fun h64 => ?_)
          · exfalso; omega
          · have hM : 1 < (k : Int) := by omega
            exact ih.2.1 3 mh hImh hFmh hLmh ⟨by omega, by omega⟩ ⟨by omega, by omega⟩ (by omega) (by omega) (by omega) (by omega) (by omega) (by omega) (by omega) (by omega) hRKNmh hRNSmh hRTRmh hRWDmh hM
set_option maxHeartbeats 4000000 in
theorem zl_117H1k (n : Nat) {a0 : Int} {m0 : zu_m} (hc0 : zcls a0 = 28)  (hxp0 : (m0 a0 21) + znz m0 = (m0 a0 48)) (hxp1 : (m0 a0 45) = znz m0 + (m0 a0 47)) (hxp2 : (m0 a0 46) = zbi m0 + 1) (hxp3 : (m0 a0 49) = 0) (hxp4 : 1 ≤ (m0 a0 21)) (k : Nat) (ih : (∀ (mh : zu_m), zi_I mh → zfr [(28, 5), (28, 6), (28, 8), (28, 9), (28, 10), (28, 11), (28, 22), (28, 46), (28, 47), (28, 48), (28, 49), (28, 50), (28, 51), (117, 0), (118, 0), (119, 0), (120, 0), (121, 0)] m0 mh → zlot m0 mh → (0 ≤ mh a0 49 ∧ mh a0 49 ≤ 0) → ((mh a0 21) + znz mh = (mh a0 48)) → ((mh a0 45) = znz mh + (mh a0 47)) → ((mh a0 46) = zbi mh + 1) → (1 ≤ (mh a0 21)) → ((mh a0 7) = (m0 a0 7)) → ((mh a0 8) = (m0 a0 8)) → ((mh a0 4) = (m0 a0 4)) → (zR_KN mh) → (zR_NS mh) → (zR_TR mh) → (zR_WD mh) → 2 < (k : Int) → zw (zu_ex (zt_T n) 117 47 [(40, a0), (2, 0)] [] mh) (fun v m => zi_I m ∧ zfr [(28, 5), (28, 6), (28, 8), (28, 9), (28, 10), (28, 11), (28, 22), (28, 46), (28, 47), (28, 48), (28, 49), (28, 50), (28, 51), (117, 0), (118, 0), (119, 0), (120, 0), (121, 0)] m0 m ∧ zlot m0 m ∧ zR_KN m ∧ zR_NS m ∧ zR_TR m ∧ zR_WD m ∧ (0 ≤ v ∧ v ≤ 1) ∧ ((m0 a0 7) ≤ (m a0 7)) ∧ (v = 1 → ((m0 a0 8) ≠ 0 ∧ ((m a0 8) = 0 ∨ (m0 a0 7) < (m a0 7)))) ∧ (v = 1 → (m a0 21) + znz m = (m a0 48)) ∧ (v = 1 → (m a0 46) + (m a0 49) = zbi m + 1) ∧ (v = 1 → (m a0 45) = znz m + (m a0 47)) ∧ (v = 1 → ((m a0 49) = 0 → 1 ≤ (m a0 21))) ∧ (v = 1 → (m a0 4) = (m0 a0 4)) ∧ (v = 0 → (m a0 4) ≠ 0))) ∧ (∀ (y0 : Int) (mh : zu_m), zi_I mh → zfr [(28, 5), (28, 6), (28, 8), (28, 9), (28, 10), (28, 11), (28, 22), (28, 46), (28, 47), (28, 48), (28, 49), (28, 50), (28, 51), (117, 0), (118, 0), (119, 0), (120, 0), (121, 0)] m0 mh → zlot m0 mh → (0 ≤ y0 ∧ y0 ≤ 14) → (0 ≤ mh a0 49 ∧ mh a0 49 ≤ 0) → ((mh a0 21) + znz mh = (mh a0 48)) → ((mh a0 45) = znz mh + (mh a0 47)) → ((mh a0 46) = zbi mh + 1) → (1 ≤ (mh a0 21)) → ((mh a0 7) = (m0 a0 7)) → (y0 ≠ 0 → (m0 a0 8) ≠ 0) → (y0 = 0 ∨ 3 ≤ y0) → ((mh a0 4) = (m0 a0 4)) → (zR_KN mh) → (zR_NS mh) → (zR_TR mh) → (zR_WD mh) → 1 < (k : Int) → zw (zu_ex (zt_T n) 117 147 [(40, a0), (2, 0)] [(0, y0)] mh) (fun v m => zi_I m ∧ zfr [(28, 5), (28, 6), (28, 8), (28, 9), (28, 10), (28, 11), (28, 22), (28, 46), (28, 47), (28, 48), (28, 49), (28, 50), (28, 51), (117, 0), (118, 0), (119, 0), (120, 0), (121, 0)] m0 m ∧ zlot m0 m ∧ zR_KN m ∧ zR_NS m ∧ zR_TR m ∧ zR_WD m ∧ (0 ≤ v ∧ v ≤ 1) ∧ ((m0 a0 7) ≤ (m a0 7)) ∧ (v = 1 → ((m0 a0 8) ≠ 0 ∧ ((m a0 8) = 0 ∨ (m0 a0 7) < (m a0 7)))) ∧ (v = 1 → (m a0 21) + znz m = (m a0 48)) ∧ (v = 1 → (m a0 46) + (m a0 49) = zbi m + 1) ∧ (v = 1 → (m a0 45) = znz m + (m a0 47)) ∧ (v = 1 → ((m a0 49) = 0 → 1 ≤ (m a0 21))) ∧ (v = 1 → (m a0 4) = (m0 a0 4)) ∧ (v = 0 → (m a0 4) ≠ 0))) ∧ (∀ (x1 : Int) (mh : zu_m), zi_I mh → zfr [(28, 5), (28, 6), (28, 8), (28, 9), (28, 10), (28, 11), (28, 22), (28, 46), (28, 47), (28, 48), (28, 49), (28, 50), (28, 51), (117, 0), (118, 0), (119, 0), (120, 0), (121, 0)] m0 mh → zlot m0 mh → (1 ≤ x1 ∧ x1 ≤ 14) → (0 ≤ mh a0 49 ∧ mh a0 49 ≤ 0) → ((mh a0 21) + znz mh = (mh a0 48)) → ((mh a0 45) = znz mh + (mh a0 47)) → ((mh a0 46) = zbi mh + 1) → (1 ≤ (mh a0 21)) → ((mh a0 7) = (m0 a0 7)) → ((m0 a0 8) ≠ 0) → (3 ≤ x1) → ((mh a0 4) = (m0 a0 4)) → (zR_KN mh) → (zR_NS mh) → (zR_TR mh) → (zR_WD mh) → 0 < (k : Int) → zw (zu_ex (zt_T n) 117 217 [(40, a0), (0, x1)] [] mh) (fun v m => zi_I m ∧ zfr [(28, 5), (28, 6), (28, 8), (28, 9), (28, 10), (28, 11), (28, 22), (28, 46), (28, 47), (28, 48), (28, 49), (28, 50), (28, 51), (117, 0), (118, 0), (119, 0), (120, 0), (121, 0)] m0 m ∧ zlot m0 m ∧ zR_KN m ∧ zR_NS m ∧ zR_TR m ∧ zR_WD m ∧ (0 ≤ v ∧ v ≤ 1) ∧ ((m0 a0 7) ≤ (m a0 7)) ∧ (v = 1 → ((m0 a0 8) ≠ 0 ∧ ((m a0 8) = 0 ∨ (m0 a0 7) < (m a0 7)))) ∧ (v = 1 → (m a0 21) + znz m = (m a0 48)) ∧ (v = 1 → (m a0 46) + (m a0 49) = zbi m + 1) ∧ (v = 1 → (m a0 45) = znz m + (m a0 47)) ∧ (v = 1 → ((m a0 49) = 0 → 1 ≤ (m a0 21))) ∧ (v = 1 → (m a0 4) = (m0 a0 4)) ∧ (v = 0 → (m a0 4) ≠ 0)))) : (∀ (y0 : Int) (mh : zu_m), zi_I mh → zfr [(28, 5), (28, 6), (28, 8), (28, 9), (28, 10), (28, 11), (28, 22), (28, 46), (28, 47), (28, 48), (28, 49), (28, 50), (28, 51), (117, 0), (118, 0), (119, 0), (120, 0), (121, 0)] m0 mh → zlot m0 mh → (0 ≤ y0 ∧ y0 ≤ 14) → (0 ≤ mh a0 49 ∧ mh a0 49 ≤ 0) → ((mh a0 21) + znz mh = (mh a0 48)) → ((mh a0 45) = znz mh + (mh a0 47)) → ((mh a0 46) = zbi mh + 1) → (1 ≤ (mh a0 21)) → ((mh a0 7) = (m0 a0 7)) → (y0 ≠ 0 → (m0 a0 8) ≠ 0) → (y0 = 0 ∨ 3 ≤ y0) → ((mh a0 4) = (m0 a0 4)) → (zR_KN mh) → (zR_NS mh) → (zR_TR mh) → (zR_WD mh) → 1 < ((k + 1 : Nat) : Int) → zw (zu_ex (zt_T n) 117 147 [(40, a0), (2, 0)] [(0, y0)] mh) (fun v m => zi_I m ∧ zfr [(28, 5), (28, 6), (28, 8), (28, 9), (28, 10), (28, 11), (28, 22), (28, 46), (28, 47), (28, 48), (28, 49), (28, 50), (28, 51), (117, 0), (118, 0), (119, 0), (120, 0), (121, 0)] m0 m ∧ zlot m0 m ∧ zR_KN m ∧ zR_NS m ∧ zR_TR m ∧ zR_WD m ∧ (0 ≤ v ∧ v ≤ 1) ∧ ((m0 a0 7) ≤ (m a0 7)) ∧ (v = 1 → ((m0 a0 8) ≠ 0 ∧ ((m a0 8) = 0 ∨ (m0 a0 7) < (m a0 7)))) ∧ (v = 1 → (m a0 21) + znz m = (m a0 48)) ∧ (v = 1 → (m a0 46) + (m a0 49) = zbi m + 1) ∧ (v = 1 → (m a0 45) = znz m + (m a0 47)) ∧ (v = 1 → ((m a0 49) = 0 → 1 ≤ (m a0 21))) ∧ (v = 1 → (m a0 4) = (m0 a0 4)) ∧ (v = 0 → (m a0 4) ≠ 0))) := by
      intro y0 mh hImh hFmh hLmh hby0 hg1 hH0 hH1 hH2 hH3 hH4 hH5 hH6 hH7 hRKNmh hRNSmh hRTRmh hRWDmh hM
      refine zw_eq (zu_rega_at (zt_T n) (zm_117 n) (zdp_117 n) _ _ _ _ _ _ (zr_117_147 n _ _ a0 y0 mh)) ?_
      have r65 : 0 ≤ (mh a0 21) ∧ (mh a0 21) ≤ 64 := zi_rd hImh hc0 zb_28_21
      have r66 : 0 ≤ (mh a0 48) ∧ (mh a0 48) ≤ 64 := zi_rd hImh hc0 zb_28_48
      have r67 : 0 ≤ (mh a0 45) ∧ (mh a0 45) ≤ 96 := zi_rd hImh hc0 zb_28_45
      have r68 : 0 ≤ (mh a0 47) ∧ (mh a0 47) ≤ 8 := zi_rd hImh hc0 zb_28_47
      have r69 : 0 ≤ (mh a0 46) ∧ (mh a0 46) ≤ 96 := zi_rd hImh hc0 zb_28_46
      have r70 : 0 ≤ (mh a0 7) ∧ (mh a0 7) ≤ 700 := zi_rd hImh hc0 zb_28_7
      have r71 : (-2147483648) ≤ (mh a0 4) ∧ (mh a0 4) ≤ 2147483647 := zi_rd hImh hc0 zb_28_4
      have g72 := zwt_bd hImh hc0
      have s73 := hRNSmh a0 hc0
      refine zw_ite (fun h74 => ?_) (fun h74 => ?_)
      · refine zw_bd (zw_eq (zu_call_at (zt_T n) (zm_109 n) (zdp_109 n) _ _ _ _ _ rfl (zr_109_0 n _ _ y0 mh)) ?_)
        refine zw_ite (fun h75 => ?_) (fun h75 => ?_)
        · refine zw_ite (fun h76 => ?_) (fun h76 => ?_)
          · refine zw_ite (fun h77 => ?_) (fun h77 => ?_)
            · refine zw_ite (fun h78 => ?_) (fun h78 => ?_)
              · refine zw_ite (fun h79 => ?_) (fun h79 => ?_)
                · refine zw_ite (fun h80 => ?_) (fun h80 => ?_)
                  · refine zw_some ?_
                    refine zw_ite (fun h81 => ?_) (fun h81 => ?_)
                    · refine zw_bd (zw_eq (zu_call_at (zt_T n) (zm_109 n) (zdp_109 n) _ _ _ _ _ rfl (zr_109_0 n _ _ y0 mh)) ?_)
                      refine zw_ite (fun h82 => ?_) (fun h82 => ?_)
                      · refine zw_ite (fun h83 => ?_) (fun h83 => ?_)
                        · refine zw_ite (fun h84 => ?_) (fun h84 => ?_)
                          · refine zw_ite (fun h85 => ?_) (fun h85 => ?_)
                            · refine zw_ite (fun h86 => ?_) (fun h86 => ?_)
                              · refine zw_ite (fun h87 => ?_) (fun h87 => ?_)
                                · refine zw_some ?_
                                  refine zw_bd (zw_mono (zk_112k n hImh hc0 ⟨by decide, by decide⟩ (by omega) (by omega) (by omega) hRKNmh) (fun v89 m88 hqm88 => ?_))
                                  obtain ⟨hIm88, hfm88, hlm88, hvm88⟩ := hqm88
                                  have hFm88 := zfr_tr hFmh hfm88 rfl
                                  have hLm88 := zlot_go hLmh hlm88
                                  obtain ⟨hRKNm88, hvm88⟩ := hvm88
                                  have hRNSm88 := zR_NS_fr (zdis_fr hfm88 rfl) hRNSmh
                                  have hRTRm88 := zR_TR_fr (zdis_fr hfm88 rfl) hRTRmh
                                  have hRWDm88 := zR_WD_fr (zdis_fr hfm88 rfl) hRWDmh
                                  have g90 := zwt_bd hIm88 hc0
                                  have s91 := hRNSm88 a0 hc0
                                  have r92 : 0 ≤ (m88 a0 21) ∧ (m88 a0 21) ≤ 64 := zi_rd hIm88 hc0 zb_28_21
                                  have r93 : 0 ≤ (m88 a0 46) ∧ (m88 a0 46) ≤ 96 := zi_rd hIm88 hc0 zb_28_46
                                  have r94 : 0 ≤ (m88 a0 45) ∧ (m88 a0 45) ≤ 96 := zi_rd hIm88 hc0 zb_28_45
                                  refine zw_bd (zw_eq (zu_call_at (zt_T n) (zm_109 n) (zdp_109 n) _ _ _ _ _ rfl (zr_109_0 n _ _ y0 m88)) ?_)
                                  refine zw_ite (fun h95 => ?_) (fun h95 => ?_)
                                  · refine zw_ite (fun h96 => ?_) (fun h96 => ?_)
                                    · refine zw_ite (fun h97 => ?_) (fun h97 => ?_)
                                      · refine zw_ite (fun h98 => ?_) (fun h98 => ?_)
                                        · refine zw_ite (fun h99 => ?_) (fun h99 => ?_)
                                          · refine zw_ite (fun h100 => ?_) (fun h100 => ?_)
                                            · refine zw_some ?_
                                              refine zw_ite (fun h101 => ?_) (fun h101 => ?_)
                                              · have r102 : 0 ≤ (m88 a0 49) ∧ (m88 a0 49) ≤ 1 := zi_rd hIm88 hc0 zb_28_49
                                                have e103 : (m88 a0 49) = (mh a0 49) := (zfr_ap hfm88 hc0 rfl)
                                                have r104 : 0 ≤ (m88 a0 48) ∧ (m88 a0 48) ≤ 64 := zi_rd hIm88 hc0 zb_28_48
                                                have e105 : (m88 a0 48) = (mh a0 48) := (zfr_ap hfm88 hc0 rfl)
                                                have r106 : 0 ≤ (m88 a0 47) ∧ (m88 a0 47) ≤ 8 := zi_rd hIm88 hc0 zb_28_47
                                                have e107 : (m88 a0 47) = (mh a0 47) := (zfr_ap hfm88 hc0 rfl)
                                                have r108 : 0 ≤ (m88 a0 7) ∧ (m88 a0 7) ≤ 700 := zi_rd hIm88 hc0 zb_28_7
                                                have e109 : (m88 a0 7) = (mh a0 7) := (zfr_ap hfm88 hc0 rfl)
                                                have r110 : (-2147483648) ≤ (m88 a0 4) ∧ (m88 a0 4) ≤ 2147483647 := zi_rd hIm88 hc0 zb_28_4
                                                have e111 : (m88 a0 4) = (mh a0 4) := (zfr_ap hfm88 hc0 rfl)
                                                have hM : 0 < (k : Int) := by omega
                                                exact ih.2.2 y0 m88 hIm88 hFm88 hLm88 ⟨by omega, by omega⟩ ⟨by omega, by omega⟩ (by omega) (by omega) (by omega) (by omega) (by omega) (by omega) (by omega) (by omega) hRKNm88 hRNSm88 hRTRm88 hRWDm88 hM
                                              · exfalso; omega
                                            · exfalso; omega
                                          · exfalso; omega
                                        · exfalso; omega
                                      · exfalso; omega
                                    · exfalso; omega
                                  · exfalso; omega
                                · exfalso; omega
                              · exfalso; omega
                            · exfalso; omega
                          · exfalso; omega
                        · exfalso; omega
                      · exfalso; omega
                    · exfalso; omega
                  · refine zw_some ?_
                    refine zw_ite (fun h112 => ?_) (fun h112 => ?_)
                    · refine zw_bd (zw_eq (zu_call_at (zt_T n) (zm_109 n) (zdp_109 n) _ _ _ _ _ rfl (zr_109_0 n _ _ y0 mh)) ?_)
                      refine zw_ite (fun h113 => ?_) (fun h113 => ?_)
                      · refine zw_ite (fun h114 => ?_) (fun h114 => ?_)
                        · refine zw_ite (fun h115 => ?_) (fun h115 => ?_)
                          · refine zw_ite (fun h116 => ?_) (fun h116 => ?_)
                            · refine zw_ite (fun h117 => ?_) (fun h117 => ?_)
                              · refine zw_ite (fun h118 => ?_) (fun h118 => ?_)
                                · exfalso; omega
                                · refine zw_some ?_
                                  refine zw_bd (zw_mono (zk_112k n hImh hc0 ⟨by decide, by decide⟩ (by omega) (by omega) (by omega) hRKNmh) (fun v120 m119 hqm119 => ?_))
                                  obtain ⟨hIm119, hfm119, hlm119, hvm119⟩ := hqm119
                                  have hFm119 := zfr_tr hFmh hfm119 rfl
                                  have hLm119 := zlot_go hLmh hlm119
                                  obtain ⟨hRKNm119, hvm119⟩ := hvm119
                                  have hRNSm119 := zR_NS_fr (zdis_fr hfm119 rfl) hRNSmh
                                  have hRTRm119 := zR_TR_fr (zdis_fr hfm119 rfl) hRTRmh
                                  have hRWDm119 := zR_WD_fr (zdis_fr hfm119 rfl) hRWDmh
                                  have g121 := zwt_bd hIm119 hc0
                                  have s122 := hRNSm119 a0 hc0
                                  have r123 : 0 ≤ (m119 a0 21) ∧ (m119 a0 21) ≤ 64 := zi_rd hIm119 hc0 zb_28_21
                                  have r124 : 0 ≤ (m119 a0 46) ∧ (m119 a0 46) ≤ 96 := zi_rd hIm119 hc0 zb_28_46
                                  have r125 : 0 ≤ (m119 a0 45) ∧ (m119 a0 45) ≤ 96 := zi_rd hIm119 hc0 zb_28_45
                                  refine zw_bd (zw_eq (zu_call_at (zt_T n) (zm_109 n) (zdp_109 n) _ _ _ _ _ rfl (zr_109_0 n _ _ y0 m119)) ?_)
                                  refine zw_ite (fun h126 => ?_) (fun h126 => ?_)
                                  · refine zw_ite (fun h127 => ?_) (fun h127 => ?_)
                                    · refine zw_ite (fun h128 => ?_) (fun h128 => ?_)
                                      · refine zw_ite (fun h129 => ?_) (fun h129 => ?_)
                                        · refine zw_ite (fun h130 => ?_) (fun h130 => ?_)
                                          · refine zw_ite (fun h131 => ?_) (fun h131 => ?_)
                                            · exfalso; omega
                                            · refine zw_some ?_
                                              refine zw_ite (fun h132 => ?_) (fun h132 => ?_)
                                              · have r133 : 0 ≤ (m119 a0 49) ∧ (m119 a0 49) ≤ 1 := zi_rd hIm119 hc0 zb_28_49
                                                have e134 : (m119 a0 49) = (mh a0 49) := (zfr_ap hfm119 hc0 rfl)
                                                have r135 : 0 ≤ (m119 a0 48) ∧ (m119 a0 48) ≤ 64 := zi_rd hIm119 hc0 zb_28_48
                                                have e136 : (m119 a0 48) = (mh a0 48) := (zfr_ap hfm119 hc0 rfl)
                                                have r137 : 0 ≤ (m119 a0 47) ∧ (m119 a0 47) ≤ 8 := zi_rd hIm119 hc0 zb_28_47
                                                have e138 : (m119 a0 47) = (mh a0 47) := (zfr_ap hfm119 hc0 rfl)
                                                have r139 : 0 ≤ (m119 a0 7) ∧ (m119 a0 7) ≤ 700 := zi_rd hIm119 hc0 zb_28_7
                                                have e140 : (m119 a0 7) = (mh a0 7) := (zfr_ap hfm119 hc0 rfl)
                                                have r141 : (-2147483648) ≤ (m119 a0 4) ∧ (m119 a0 4) ≤ 2147483647 := zi_rd hIm119 hc0 zb_28_4
                                                have e142 : (m119 a0 4) = (mh a0 4) := (zfr_ap hfm119 hc0 rfl)
                                                have hM : 0 < (k : Int) := by omega
                                                exact ih.2.2 y0 m119 hIm119 hFm119 hLm119 ⟨by omega, by omega⟩ ⟨by omega, by omega⟩ (by omega) (by omega) (by omega) (by omega) (by omega) (by omega) (by omega) (by omega) hRKNm119 hRNSm119 hRTRm119 hRWDm119 hM
                                              · exfalso; omega
                                          · exfalso; omega
                                        · exfalso; omega
                                      · exfalso; omega
                                    · exfalso; omega
                                  · exfalso; omega
                              · exfalso; omega
                            · exfalso; omega
                          · exfalso; omega
                        · exfalso; omega
                      · exfalso; omega
                    · exfalso; omega
                · refine zw_some ?_
                  refine zw_ite (fun h143 => ?_) (fun h143 => ?_)
                  · refine zw_bd (zw_eq (zu_call_at (zt_T n) (zm_109 n) (zdp_109 n) _ _ _ _ _ rfl (zr_109_0 n _ _ y0 mh)) ?_)
                    refine zw_ite (fun h144 => ?_) (fun h144 => ?_)
                    · refine zw_ite (fun h145 => ?_) (fun h145 => ?_)
                      · refine zw_ite (fun h146 => ?_) (fun h146 => ?_)
                        · refine zw_ite (fun h147 => ?_) (fun h147 => ?_)
                          · refine zw_ite (fun h148 => ?_) (fun h148 => ?_)
                            · exfalso; omega
                            · refine zw_some ?_
                              refine zw_bd (zw_mono (zk_112k n hImh hc0 ⟨by decide, by decide⟩ (by omega) (by omega) (by omega) hRKNmh) (fun v150 m149 hqm149 => ?_))
                              obtain ⟨hIm149, hfm149, hlm149, hvm149⟩ := hqm149
                              have hFm149 := zfr_tr hFmh hfm149 rfl
                              have hLm149 := zlot_go hLmh hlm149
                              obtain ⟨hRKNm149, hvm149⟩ := hvm149
                              have hRNSm149 := zR_NS_fr (zdis_fr hfm149 rfl) hRNSmh
                              have hRTRm149 := zR_TR_fr (zdis_fr hfm149 rfl) hRTRmh
                              have hRWDm149 := zR_WD_fr (zdis_fr hfm149 rfl) hRWDmh
                              have g151 := zwt_bd hIm149 hc0
                              have s152 := hRNSm149 a0 hc0
                              have r153 : 0 ≤ (m149 a0 21) ∧ (m149 a0 21) ≤ 64 := zi_rd hIm149 hc0 zb_28_21
                              have r154 : 0 ≤ (m149 a0 46) ∧ (m149 a0 46) ≤ 96 := zi_rd hIm149 hc0 zb_28_46
                              have r155 : 0 ≤ (m149 a0 45) ∧ (m149 a0 45) ≤ 96 := zi_rd hIm149 hc0 zb_28_45
                              refine zw_bd (zw_eq (zu_call_at (zt_T n) (zm_109 n) (zdp_109 n) _ _ _ _ _ rfl (zr_109_0 n _ _ y0 m149)) ?_)
                              refine zw_ite (fun h156 => ?_) (fun h156 => ?_)
                              · refine zw_ite (fun h157 => ?_) (fun h157 => ?_)
                                · refine zw_ite (fun h158 => ?_) (fun h158 => ?_)
                                  · refine zw_ite (fun h159 => ?_) (fun h159 => ?_)
                                    · refine zw_ite (fun h160 => ?_) (fun h160 => ?_)
                                      · exfalso; omega
                                      · refine zw_some ?_
                                        refine zw_ite (fun h161 => ?_) (fun h161 => ?_)
                                        · have r162 : 0 ≤ (m149 a0 49) ∧ (m149 a0 49) ≤ 1 := zi_rd hIm149 hc0 zb_28_49
                                          have e163 : (m149 a0 49) = (mh a0 49) := (zfr_ap hfm149 hc0 rfl)
                                          have r164 : 0 ≤ (m149 a0 48) ∧ (m149 a0 48) ≤ 64 := zi_rd hIm149 hc0 zb_28_48
                                          have e165 : (m149 a0 48) = (mh a0 48) := (zfr_ap hfm149 hc0 rfl)
                                          have r166 : 0 ≤ (m149 a0 47) ∧ (m149 a0 47) ≤ 8 := zi_rd hIm149 hc0 zb_28_47
                                          have e167 : (m149 a0 47) = (mh a0 47) := (zfr_ap hfm149 hc0 rfl)
                                          have r168 : 0 ≤ (m149 a0 7) ∧ (m149 a0 7) ≤ 700 := zi_rd hIm149 hc0 zb_28_7
                                          have e169 : (m149 a0 7) = (mh a0 7) := (zfr_ap hfm149 hc0 rfl)
                                          have r170 : (-2147483648) ≤ (m149 a0 4) ∧ (m149 a0 4) ≤ 2147483647 := zi_rd hIm149 hc0 zb_28_4
                                          have e171 : (m149 a0 4) = (mh a0 4) := (zfr_ap hfm149 hc0 rfl)
                                          have hM : 0 < (k : Int) := by omega
                                          exact ih.2.2 y0 m149 hIm149 hFm149 hLm149 ⟨by omega, by omega⟩ ⟨by omega, by omega⟩ (by omega) (by omega) (by omega) (by omega) (by omega) (by omega) (by omega) (by omega) hRKNm149 hRNSm149 hRTRm149 hRWDm149 hM
                                        · exfalso; omega
                                    · exfalso; omega
                                  · exfalso; omega
                                · exfalso; omega
                              · exfalso; omega
                          · exfalso; omega
                        · exfalso; omega
                      · exfalso; omega
                    · exfalso; omega
                  · exfalso; omega
              · refine zw_some ?_
                refine zw_ite (fun h172 => ?_) (fun h172 => ?_)
                · refine zw_bd (zw_eq (zu_call_at (zt_T n) (zm_109 n) (zdp_109 n) _ _ _ _ _ rfl (zr_109_0 n _ _ y0 mh)) ?_)
                  refine zw_ite (fun h173 => ?_) (fun h173 => ?_)
                  · refine zw_ite (fun h174 => ?_) (fun h174 => ?_)
                    · refine zw_ite (fun h175 => ?_) (fun h175 => ?_)
                      · refine zw_ite (fun h176 => ?_) (fun h176 => ?_)
                        · exfalso; omega
                        · refine zw_some ?_
                          refine zw_bd (zw_mono (zk_112k n hImh hc0 ⟨by decide, by decide⟩ (by omega) (by omega) (by omega) hRKNmh) (fun v178 m177 hqm177 => ?_))
                          obtain ⟨hIm177, hfm177, hlm177, hvm177⟩ := hqm177
                          have hFm177 := zfr_tr hFmh hfm177 rfl
                          have hLm177 := zlot_go hLmh hlm177
                          obtain ⟨hRKNm177, hvm177⟩ := hvm177
                          have hRNSm177 := zR_NS_fr (zdis_fr hfm177 rfl) hRNSmh
                          have hRTRm177 := zR_TR_fr (zdis_fr hfm177 rfl) hRTRmh
                          have hRWDm177 := zR_WD_fr (zdis_fr hfm177 rfl) hRWDmh
                          have g179 := zwt_bd hIm177 hc0
                          have s180 := hRNSm177 a0 hc0
                          have r181 : 0 ≤ (m177 a0 21) ∧ (m177 a0 21) ≤ 64 := zi_rd hIm177 hc0 zb_28_21
                          have r182 : 0 ≤ (m177 a0 46) ∧ (m177 a0 46) ≤ 96 := zi_rd hIm177 hc0 zb_28_46
                          have r183 : 0 ≤ (m177 a0 45) ∧ (m177 a0 45) ≤ 96 := zi_rd hIm177 hc0 zb_28_45
                          refine zw_bd (zw_eq (zu_call_at (zt_T n) (zm_109 n) (zdp_109 n) _ _ _ _ _ rfl (zr_109_0 n _ _ y0 m177)) ?_)
                          refine zw_ite (fun h184 => ?_) (fun h184 => ?_)
                          · refine zw_ite (fun h185 => ?_) (fun h185 => ?_)
                            · refine zw_ite (fun h186 => ?_) (fun h186 => ?_)
                              · refine zw_ite (fun h187 => ?_) (fun h187 => ?_)
                                · exfalso; omega
                                · refine zw_some ?_
                                  refine zw_ite (fun h188 => ?_) (fun h188 => ?_)
                                  · have r189 : 0 ≤ (m177 a0 49) ∧ (m177 a0 49) ≤ 1 := zi_rd hIm177 hc0 zb_28_49
                                    have e190 : (m177 a0 49) = (mh a0 49) := (zfr_ap hfm177 hc0 rfl)
                                    have r191 : 0 ≤ (m177 a0 48) ∧ (m177 a0 48) ≤ 64 := zi_rd hIm177 hc0 zb_28_48
                                    have e192 : (m177 a0 48) = (mh a0 48) := (zfr_ap hfm177 hc0 rfl)
                                    have r193 : 0 ≤ (m177 a0 47) ∧ (m177 a0 47) ≤ 8 := zi_rd hIm177 hc0 zb_28_47
                                    have e194 : (m177 a0 47) = (mh a0 47) := (zfr_ap hfm177 hc0 rfl)
                                    have r195 : 0 ≤ (m177 a0 7) ∧ (m177 a0 7) ≤ 700 := zi_rd hIm177 hc0 zb_28_7
                                    have e196 : (m177 a0 7) = (mh a0 7) := (zfr_ap hfm177 hc0 rfl)
                                    have r197 : (-2147483648) ≤ (m177 a0 4) ∧ (m177 a0 4) ≤ 2147483647 := zi_rd hIm177 hc0 zb_28_4
                                    have e198 : (m177 a0 4) = (mh a0 4) := (zfr_ap hfm177 hc0 rfl)
                                    have hM : 0 < (k : Int) := by omega
                                    exact ih.2.2 y0 m177 hIm177 hFm177 hLm177 ⟨by omega, by omega⟩ ⟨by omega, by omega⟩ (by omega) (by omega) (by omega) (by omega) (by omega) (by omega) (by omega) (by omega) hRKNm177 hRNSm177 hRTRm177 hRWDm177 hM
                                  · exfalso; omega
                              · exfalso; omega
                            · exfalso; omega
                          · exfalso; omega
                      · exfalso; omega
                    · exfalso; omega
                  · exfalso; omega
                · exfalso; omega
            · refine zw_some ?_
              refine zw_ite (fun h199 => ?_) (fun h199 => ?_)
              · exfalso; omega
              · refine zw_bd (zw_mono (zk_112k n hImh hc0 ⟨by decide, by decide⟩ (by omega) (by omega) (by omega) hRKNmh) (fun v201 m200 hqm200 => ?_))
                obtain ⟨hIm200, hfm200, hlm200, hvm200⟩ := hqm200
                have hFm200 := zfr_tr hFmh hfm200 rfl
                have hLm200 := zlot_go hLmh hlm200
                obtain ⟨hRKNm200, hvm200⟩ := hvm200
                have hRNSm200 := zR_NS_fr (zdis_fr hfm200 rfl) hRNSmh
                have hRTRm200 := zR_TR_fr (zdis_fr hfm200 rfl) hRTRmh
                have hRWDm200 := zR_WD_fr (zdis_fr hfm200 rfl) hRWDmh
                have g202 := zwt_bd hIm200 hc0
                have s203 := hRNSm200 a0 hc0
                have r204 : 0 ≤ (m200 a0 21) ∧ (m200 a0 21) ≤ 64 := zi_rd hIm200 hc0 zb_28_21
                have r205 : 0 ≤ (m200 a0 46) ∧ (m200 a0 46) ≤ 96 := zi_rd hIm200 hc0 zb_28_46
                have r206 : 0 ≤ (m200 a0 45) ∧ (m200 a0 45) ≤ 96 := zi_rd hIm200 hc0 zb_28_45
                refine zw_bd (zw_eq (zu_call_at (zt_T n) (zm_109 n) (zdp_109 n) _ _ _ _ _ rfl (zr_109_0 n _ _ y0 m200)) ?_)
                refine zw_ite (fun h207 => ?_) (fun h207 => ?_)
                · refine zw_ite (fun h208 => ?_) (fun h208 => ?_)
                  · refine zw_ite (fun h209 => ?_) (fun h209 => ?_)
                    · exfalso; omega
                    · refine zw_some ?_
                      refine zw_ite (fun h210 => ?_) (fun h210 => ?_)
                      · exfalso; omega
                      · refine zw_ite (fun h211 => ?_) (fun h211 => ?_)
                        · have r212 : 0 ≤ (m200 a0 49) ∧ (m200 a0 49) ≤ 1 := zi_rd hIm200 hc0 zb_28_49
                          have e213 : (m200 a0 49) = (mh a0 49) := (zfr_ap hfm200 hc0 rfl)
                          have r214 : 0 ≤ (m200 a0 48) ∧ (m200 a0 48) ≤ 64 := zi_rd hIm200 hc0 zb_28_48
                          have e215 : (m200 a0 48) = (mh a0 48) := (zfr_ap hfm200 hc0 rfl)
                          have r216 : 0 ≤ (m200 a0 47) ∧ (m200 a0 47) ≤ 8 := zi_rd hIm200 hc0 zb_28_47
                          have e217 : (m200 a0 47) = (mh a0 47) := (zfr_ap hfm200 hc0 rfl)
                          have r218 : 0 ≤ (m200 a0 7) ∧ (m200 a0 7) ≤ 700 := zi_rd hIm200 hc0 zb_28_7
                          have e219 : (m200 a0 7) = (mh a0 7) := (zfr_ap hfm200 hc0 rfl)
                          have r220 : (-2147483648) ≤ (m200 a0 4) ∧ (m200 a0 4) ≤ 2147483647 := zi_rd hIm200 hc0 zb_28_4
                          have e221 : (m200 a0 4) = (mh a0 4) := (zfr_ap hfm200 hc0 rfl)
                          have hM : 0 < (k : Int) := by omega
                          exact ih.2.2 y0 m200 hIm200 hFm200 hLm200 ⟨by omega, by omega⟩ ⟨by omega, by omega⟩ (by omega) (by omega) (by omega) (by omega) (by omega) (by omega) (by omega) (by omega) hRKNm200 hRNSm200 hRTRm200 hRWDm200 hM
                        · have w222 := zu_w32_id (z := (m200 a0 45) - 1) (by omega) (by omega)
                          have b223 : 0 ≤ (zu_w32 ((m200 a0 45) - 1)) ∧ (zu_w32 ((m200 a0 45) - 1)) < 96 := by omega
                          refine zw_if b223 ?_
                          have r224 : 0 ≤ (m200 211 (zu_w32 ((m200 a0 45) - 1))) ∧ (m200 211 (zu_w32 ((m200 a0 45) - 1))) ≤ 14 := zi_rd hIm200 zq_211 (zb_120 _)
                          refine zw_bd (zw_eq (zu_call_at (zt_T n) (zm_109 n) (zdp_109 n) _ _ _ _ _ rfl (zr_109_0 n _ _ (m200 211 (zu_w32 ((m200 a0 45) - 1))) m200)) ?_)
                          refine zw_ite (fun h225 => ?_) (fun h225 => ?_)
                          · refine zw_ite (fun h226 => ?_) (fun h226 => ?_)
                            · refine zw_ite (fun h227 => ?_) (fun h227 => ?_)
                              · refine zw_ite (fun h228 => ?_) (fun h228 => ?_)
                                · refine zw_ite (fun h229 => ?_) (fun h229 => ?_)
                                  · refine zw_ite (fun h230 => ?_) (fun h230 => ?_)
                                    · refine zw_some ?_
                                      refine zw_ite (fun h231 => ?_) (fun h231 => ?_)
                                      · have r232 : 0 ≤ (m200 a0 49) ∧ (m200 a0 49) ≤ 1 := zi_rd hIm200 hc0 zb_28_49
                                        have e233 : (m200 a0 49) = (mh a0 49) := (zfr_ap hfm200 hc0 rfl)
                                        have r234 : 0 ≤ (m200 a0 48) ∧ (m200 a0 48) ≤ 64 := zi_rd hIm200 hc0 zb_28_48
                                        have e235 : (m200 a0 48) = (mh a0 48) := (zfr_ap hfm200 hc0 rfl)
                                        have r236 : 0 ≤ (m200 a0 47) ∧ (m200 a0 47) ≤ 8 := zi_rd hIm200 hc0 zb_28_47
                                        have e237 : (m200 a0 47) = (mh a0 47) := (zfr_ap hfm200 hc0 rfl)
                                        have r238 : 0 ≤ (m200 a0 7) ∧ (m200 a0 7) ≤ 700 := zi_rd hIm200 hc0 zb_28_7
                                        have e239 : (m200 a0 7) = (mh a0 7) := (zfr_ap hfm200 hc0 rfl)
                                        have r240 : (-2147483648) ≤ (m200 a0 4) ∧ (m200 a0 4) ≤ 2147483647 := zi_rd hIm200 hc0 zb_28_4
                                        have e241 : (m200 a0 4) = (mh a0 4) := (zfr_ap hfm200 hc0 rfl)
                                        have hM : 0 < (k : Int) := by omega
                                        exact ih.2.2 y0 m200 hIm200 hFm200 hLm200 ⟨by omega, by omega⟩ ⟨by omega, by omega⟩ (by omega) (by omega) (by omega) (by omega) (by omega) (by omega) (by omega) (by omega) hRKNm200 hRNSm200 hRTRm200 hRWDm200 hM
                                      · exfalso; omega
                                    · refine zw_some ?_
                                      refine zw_ite (fun h242 => ?_) (fun h242 => ?_)
                                      · have r243 : 0 ≤ (m200 a0 49) ∧ (m200 a0 49) ≤ 1 := zi_rd hIm200 hc0 zb_28_49
                                        have e244 : (m200 a0 49) = (mh a0 49) := (zfr_ap hfm200 hc0 rfl)
                                        have r245 : 0 ≤ (m200 a0 48) ∧ (m200 a0 48) ≤ 64 := zi_rd hIm200 hc0 zb_28_48
                                        have e246 : (m200 a0 48) = (mh a0 48) := (zfr_ap hfm200 hc0 rfl)
                                        have r247 : 0 ≤ (m200 a0 47) ∧ (m200 a0 47) ≤ 8 := zi_rd hIm200 hc0 zb_28_47
                                        have e248 : (m200 a0 47) = (mh a0 47) := (zfr_ap hfm200 hc0 rfl)
                                        have r249 : 0 ≤ (m200 a0 7) ∧ (m200 a0 7) ≤ 700 := zi_rd hIm200 hc0 zb_28_7
                                        have e250 : (m200 a0 7) = (mh a0 7) := (zfr_ap hfm200 hc0 rfl)
                                        have r251 : (-2147483648) ≤ (m200 a0 4) ∧ (m200 a0 4) ≤ 2147483647 := zi_rd hIm200 hc0 zb_28_4
                                        have e252 : (m200 a0 4) = (mh a0 4) := (zfr_ap hfm200 hc0 rfl)
                                        have hM : 0 < (k : Int) := by omega
                                        exact ih.2.2 y0 m200 hIm200 hFm200 hLm200 ⟨by omega, by omega⟩ ⟨by omega, by omega⟩ (by omega) (by omega) (by omega) (by omega) (by omega) (by omega) (by omega) (by omega) hRKNm200 hRNSm200 hRTRm200 hRWDm200 hM
                                      · exfalso; omega
                                  · refine zw_some ?_
                                    refine zw_ite (fun h253 => ?_) (fun h253 => ?_)
                                    · have r254 : 0 ≤ (m200 a0 49) ∧ (m200 a0 49) ≤ 1 := zi_rd hIm200 hc0 zb_28_49
                                      have e255 : (m200 a0 49) = (mh a0 49) := (zfr_ap hfm200 hc0 rfl)
                                      have r256 : 0 ≤ (m200 a0 48) ∧ (m200 a0 48) ≤ 64 := zi_rd hIm200 hc0 zb_28_48
                                      have e257 : (m200 a0 48) = (mh a0 48) := (zfr_ap hfm200 hc0 rfl)
                                      have r258 : 0 ≤ (m200 a0 47) ∧ (m200 a0 47) ≤ 8 := zi_rd hIm200 hc0 zb_28_47
                                      have e259 : (m200 a0 47) = (mh a0 47) := (zfr_ap hfm200 hc0 rfl)
                                      have r260 : 0 ≤ (m200 a0 7) ∧ (m200 a0 7) ≤ 700 := zi_rd hIm200 hc0 zb_28_7
                                      have e261 : (m200 a0 7) = (mh a0 7) := (zfr_ap hfm200 hc0 rfl)
                                      have r262 : (-2147483648) ≤ (m200 a0 4) ∧ (m200 a0 4) ≤ 2147483647 := zi_rd hIm200 hc0 zb_28_4
                                      have e263 : (m200 a0 4) = (mh a0 4) := (zfr_ap hfm200 hc0 rfl)
                                      have hM : 0 < (k : Int) := by omega
                                      exact ih.2.2 y0 m200 hIm200 hFm200 hLm200 ⟨by omega, by omega⟩ ⟨by omega, by omega⟩ (by omega) (by omega) (by omega) (by omega) (by omega) (by omega) (by omega) (by omega) hRKNm200 hRNSm200 hRTRm200 hRWDm200 hM
                                    · exfalso; omega
                                · refine zw_some ?_
                                  refine zw_ite (fun h264 => ?_) (fun h264 => ?_)
                                  · have r265 : 0 ≤ (m200 a0 49) ∧ (m200 a0 49) ≤ 1 := zi_rd hIm200 hc0 zb_28_49
                                    have e266 : (m200 a0 49) = (mh a0 49) := (zfr_ap hfm200 hc0 rfl)
                                    have r267 : 0 ≤ (m200 a0 48) ∧ (m200 a0 48) ≤ 64 := zi_rd hIm200 hc0 zb_28_48
                                    have e268 : (m200 a0 48) = (mh a0 48) := (zfr_ap hfm200 hc0 rfl)
                                    have r269 : 0 ≤ (m200 a0 47) ∧ (m200 a0 47) ≤ 8 := zi_rd hIm200 hc0 zb_28_47
                                    have e270 : (m200 a0 47) = (mh a0 47) := (zfr_ap hfm200 hc0 rfl)
                                    have r271 : 0 ≤ (m200 a0 7) ∧ (m200 a0 7) ≤ 700 := zi_rd hIm200 hc0 zb_28_7
                                    have e272 : (m200 a0 7) = (mh a0 7) := (zfr_ap hfm200 hc0 rfl)
                                    have r273 : (-2147483648) ≤ (m200 a0 4) ∧ (m200 a0 4) ≤ 2147483647 := zi_rd hIm200 hc0 zb_28_4
                                    have e274 : (m200 a0 4) = (mh a0 4) := (zfr_ap hfm200 hc0 rfl)
                                    have hM : 0 < (k : Int) := by omega
                                    exact ih.2.2 y0 m200 hIm200 hFm200 hLm200 ⟨by omega, by omega⟩ ⟨by omega, by omega⟩ (by omega) (by omega) (by omega) (by omega) (by omega) (by omega) (by omega) (by omega) hRKNm200 hRNSm200 hRTRm200 hRWDm200 hM
                                  · exfalso; omega
                              · refine zw_some ?_
                                refine zw_ite (fun h275 => ?_) (fun h275 => ?_)
                                · exfalso; omega
                                · refine zw_bd (zw_eq (zu_call_at (zt_T n) (zm_85 n) (zdp_85 n) _ _ _ _ _ rfl (zr_85_0 n _ _ a0 1 m200)) ?_)
                                  generalize hmm276 : zu_up m200 a0 4 1 = m276
                                  have hIm276 := zi_up hmm276 hIm200 hc0 zb_28_4 (by omega) (by omega)
                                  have hFm276 := zfr_up hmm276 hFm200 hc0 rfl
                                  have hLm276 := zlot_i hmm276 hLm200 hc0 (by decide)
                                  have g277 := zwt_fr (zdis_fr (zfr_up hmm276 (zfr_rf [(28, 5)] _) hc0 rfl) rfl)
                                  have hRKNm276 := zR_KN_fr (zdis_fr (zfr_up hmm276 (zfr_rf [(28, 5)] _) hc0 rfl) rfl) hRKNm200
                                  have hRNSm276 := zR_NS_fr (zdis_fr (zfr_up hmm276 (zfr_rf [(28, 5)] _) hc0 rfl) rfl) hRNSm200
                                  have hRTRm276 := zR_TR_fr (zdis_fr (zfr_up hmm276 (zfr_rf [(28, 5)] _) hc0 rfl) rfl) hRTRm200
                                  have hRWDm276 := zR_WD_fr (zdis_fr (zfr_up hmm276 (zfr_rf [(28, 5)] _) hc0 rfl) rfl) hRWDm200
                                  have hRLRm276 := zLR_wr (zone_190 hc0) hmm276 (by decide)
                                  have r278 : 0 ≤ (m276 a0 10) ∧ (m276 a0 10) ≤ 700 := zi_rd hIm276 hc0 zb_28_10
                                  generalize hmm279 : zu_up m276 a0 5 (m276 a0 10) = m279
                                  have hIm279 := zi_up hmm279 hIm276 hc0 zb_28_5 (by omega) (by omega)
                                  have hFm279 := zfr_up hmm279 hFm276 hc0 rfl
                                  have hLm279 := zlot_i hmm279 hLm276 hc0 (by decide)
                                  have g280 := zwt_fr (zdis_fr (zfr_up hmm279 (zfr_rf [(28, 6)] _) hc0 rfl) rfl)
                                  have hRKNm279 := zR_KN_fr (zdis_fr (zfr_up hmm279 (zfr_rf [(28, 6)] _) hc0 rfl) rfl) hRKNm276
                                  have hRLRm279 := zR_LR_fr (zdis_fr (zfr_up hmm279 (zfr_rf [(28, 6)] _) hc0 rfl) rfl) hRLRm276
                                  have hRNSm279 := zR_NS_fr (zdis_fr (zfr_up hmm279 (zfr_rf [(28, 6)] _) hc0 rfl) rfl) hRNSm276
                                  have hRTRm279 := zR_TR_fr (zdis_fr (zfr_up hmm279 (zfr_rf [(28, 6)] _) hc0 rfl) rfl) hRTRm276
                                  have hRWDm279 := zR_WD_fr (zdis_fr (zfr_up hmm279 (zfr_rf [(28, 6)] _) hc0 rfl) rfl) hRWDm276
                                  refine zw_b (by omega) ?_
                                  refine zw_some ?_
                                  refine zw_b (by omega) ?_
                                  have r281 : 0 ≤ (m279 a0 7) ∧ (m279 a0 7) ≤ 700 := zi_rd hIm279 hc0 zb_28_7
                                  have e282 : (m279 a0 7) = (mh a0 7) := (Eq.trans (zs_ne hmm279 (Or.inr (by decide))) (Eq.trans (zs_ne hmm276 (Or.inr (by decide))) (zfr_ap hfm200 hc0 rfl)))
                                  have r283 : 0 ≤ (m279 a0 8) ∧ (m279 a0 8) ≤ 6 := zi_rd hIm279 hc0 zb_28_8
                                  have r284 : 0 ≤ (m279 a0 21) ∧ (m279 a0 21) ≤ 64 := zi_rd hIm279 hc0 zb_28_21
                                  have e285 : (m279 a0 21) = (m200 a0 21) := (Eq.trans (zs_ne hmm279 (Or.inr (by decide))) (zs_ne hmm276 (Or.inr (by decide))))
                                  have r286 : 0 ≤ (m279 a0 48) ∧ (m279 a0 48) ≤ 64 := zi_rd hIm279 hc0 zb_28_48
                                  have e287 : (m279 a0 48) = (mh a0 48) := (Eq.trans (zs_ne hmm279 (Or.inr (by decide))) (Eq.trans (zs_ne hmm276 (Or.inr (by decide))) (zfr_ap hfm200 hc0 rfl)))
                                  have r288 : 0 ≤ (m279 a0 46) ∧ (m279 a0 46) ≤ 96 := zi_rd hIm279 hc0 zb_28_46
                                  have e289 : (m279 a0 46) = (m200 a0 46) := (Eq.trans (zs_ne hmm279 (Or.inr (by decide))) (zs_ne hmm276 (Or.inr (by decide))))
                                  have r290 : 0 ≤ (m279 a0 49) ∧ (m279 a0 49) ≤ 1 := zi_rd hIm279 hc0 zb_28_49
                                  have e291 : (m279 a0 49) = (mh a0 49) := (Eq.trans (zs_ne hmm279 (Or.inr (by decide))) (Eq.trans (zs_ne hmm276 (Or.inr (by decide))) (zfr_ap hfm200 hc0 rfl)))
                                  have r292 : 0 ≤ (m279 a0 45) ∧ (m279 a0 45) ≤ 96 := zi_rd hIm279 hc0 zb_28_45
                                  have e293 : (m279 a0 45) = (m200 a0 45) := (Eq.trans (zs_ne hmm279 (Or.inr (by decide))) (zs_ne hmm276 (Or.inr (by decide))))
                                  have r294 : 0 ≤ (m279 a0 47) ∧ (m279 a0 47) ≤ 8 := zi_rd hIm279 hc0 zb_28_47
                                  have e295 : (m279 a0 47) = (mh a0 47) := (Eq.trans (zs_ne hmm279 (Or.inr (by decide))) (Eq.trans (zs_ne hmm276 (Or.inr (by decide))) (zfr_ap hfm200 hc0 rfl)))
                                  have r296 : (-2147483648) ≤ (m279 a0 4) ∧ (m279 a0 4) ≤ 2147483647 := zi_rd hIm279 hc0 zb_28_4
                                  have e297 : (m279 a0 4) = 1 := (Eq.trans (zs_ne hmm279 (Or.inr (by decide))) (zs_eq hmm276))
                                  exact zw_some ⟨hIm279, hFm279, hLm279, hRKNm279, hRNSm279, hRTRm279, hRWDm279, ⟨by decide, by decide⟩, by omega, fun h => absurd h (by decide), fun h => absurd h (by decide), fun h => absurd h (by decide), fun h => absurd h (by decide), fun h => absurd h (by decide), fun h => absurd h (by decide), fun _ => by omega⟩
                            · refine zw_some ?_
                              refine zw_ite (fun h298 => ?_) (fun h298 => ?_)
                              · have r299 : 0 ≤ (m200 a0 49) ∧ (m200 a0 49) ≤ 1 := zi_rd hIm200 hc0 zb_28_49
                                have e300 : (m200 a0 49) = (mh a0 49) := (zfr_ap hfm200 hc0 rfl)
                                have r301 : 0 ≤ (m200 a0 48) ∧ (m200 a0 48) ≤ 64 := zi_rd hIm200 hc0 zb_28_48
                                have e302 : (m200 a0 48) = (mh a0 48) := (zfr_ap hfm200 hc0 rfl)
                                have r303 : 0 ≤ (m200 a0 47) ∧ (m200 a0 47) ≤ 8 := zi_rd hIm200 hc0 zb_28_47
                                have e304 : (m200 a0 47) = (mh a0 47) := (zfr_ap hfm200 hc0 rfl)
                                have r305 : 0 ≤ (m200 a0 7) ∧ (m200 a0 7) ≤ 700 := zi_rd hIm200 hc0 zb_28_7
                                have e306 : (m200 a0 7) = (mh a0 7) := (zfr_ap hfm200 hc0 rfl)
                                have r307 : (-2147483648) ≤ (m200 a0 4) ∧ (m200 a0 4) ≤ 2147483647 := zi_rd hIm200 hc0 zb_28_4
                                have e308 : (m200 a0 4) = (mh a0 4) := (zfr_ap hfm200 hc0 rfl)
                                have hM : 0 < (k : Int) := by omega
                                exact ih.2.2 y0 m200 hIm200 hFm200 hLm200 ⟨by omega, by omega⟩ ⟨by omega, by omega⟩ (by omega) (by omega) (by omega) (by omega) (by omega) (by omega) (by omega) (by omega) hRKNm200 hRNSm200 hRTRm200 hRWDm200 hM
                              · exfalso; omega
                          · refine zw_some ?_
                            refine zw_ite (fun h309 => ?_) (fun h309 => ?_)
                            · have r310 : 0 ≤ (m200 a0 49) ∧ (m200 a0 49) ≤ 1 := zi_rd hIm200 hc0 zb_28_49
                              have e311 : (m200 a0 49) = (mh a0 49) := (zfr_ap hfm200 hc0 rfl)
                              have r312 : 0 ≤ (m200 a0 48) ∧ (m200 a0 48) ≤ 64 := zi_rd hIm200 hc0 zb_28_48
                              have e313 : (m200 a0 48) = (mh a0 48) := (zfr_ap hfm200 hc0 rfl)
                              have r314 : 0 ≤ (m200 a0 47) ∧ (m200 a0 47) ≤ 8 := zi_rd hIm200 hc0 zb_28_47
                              have e315 : (m200 a0 47) = (mh a0 47) := (zfr_ap hfm200 hc0 rfl)
                              have r316 : 0 ≤ (m200 a0 7) ∧ (m200 a0 7) ≤ 700 := zi_rd hIm200 hc0 zb_28_7
                              have e317 : (m200 a0 7) = (mh a0 7) := (zfr_ap hfm200 hc0 rfl)
                              have r318 : (-2147483648) ≤ (m200 a0 4) ∧ (m200 a0 4) ≤ 2147483647 := zi_rd hIm200 hc0 zb_28_4
                              have e319 : (m200 a0 4) = (mh a0 4) := (zfr_ap hfm200 hc0 rfl)
                              have hM : 0 < (k : Int) := by omega
                              exact ih.2.2 y0 m200 hIm200 hFm200 hLm200 ⟨by omega, by omega⟩ ⟨by omega, by omega⟩ (by omega) (by omega) (by omega) (by omega) (by omega) (by omega) (by omega) (by omega) hRKNm200 hRNSm200 hRTRm200 hRWDm200 hM
                            · exfalso; omega
                  · exfalso; omega
                · exfalso; omega
          · refine zw_some ?_
            refine zw_ite (fun h320 => ?_) (fun h320 => ?_)
            · refine zw_bd (zw_eq (zu_call_at (zt_T n) (zm_109 n) (zdp_109 n) _ _ _ _ _ rfl (zr_109_0 n _ _ y0 mh)) ?_)
              refine zw_ite (fun h321 => ?_) (fun h321 => ?_)
              · refine zw_ite (fun h322 => ?_) (fun h322 => ?_)
                · exfalso; omega
                · refine zw_some ?_
                  refine zw_bd (zw_mono (zk_112k n hImh hc0 ⟨by decide, by decide⟩ (by omega) (by omega) (by omega) hRKNmh) (fun v324 m323 hqm323 => ?_))
                  obtain ⟨hIm323, hfm323, hlm323, hvm323⟩ := hqm323
                  have hFm323 := zfr_tr hFmh hfm323 rfl
                  have hLm323 := zlot_go hLmh hlm323
                  obtain ⟨hRKNm323, hvm323⟩ := hvm323
                  have hRNSm323 := zR_NS_fr (zdis_fr hfm323 rfl) hRNSmh
                  have hRTRm323 := zR_TR_fr (zdis_fr hfm323 rfl) hRTRmh
                  have hRWDm323 := zR_WD_fr (zdis_fr hfm323 rfl) hRWDmh
                  have g325 := zwt_bd hIm323 hc0
                  have s326 := hRNSm323 a0 hc0
                  have r327 : 0 ≤ (m323 a0 21) ∧ (m323 a0 21) ≤ 64 := zi_rd hIm323 hc0 zb_28_21
                  have r328 : 0 ≤ (m323 a0 46) ∧ (m323 a0 46) ≤ 96 := zi_rd hIm323 hc0 zb_28_46
                  have r329 : 0 ≤ (m323 a0 45) ∧ (m323 a0 45) ≤ 96 := zi_rd hIm323 hc0 zb_28_45
                  refine zw_bd (zw_eq (zu_call_at (zt_T n) (zm_109 n) (zdp_109 n) _ _ _ _ _ rfl (zr_109_0 n _ _ y0 m323)) ?_)
                  refine zw_ite (fun h330 => ?_) (fun h330 => ?_)
                  · refine zw_ite (fun h331 => ?_) (fun h331 => ?_)
                    · exfalso; omega
                    · refine zw_some ?_
                      refine zw_ite (fun h332 => ?_) (fun h332 => ?_)
                      · have r333 : 0 ≤ (m323 a0 49) ∧ (m323 a0 49) ≤ 1 := zi_rd hIm323 hc0 zb_28_49
                        have e334 : (m323 a0 49) = (mh a0 49) := (zfr_ap hfm323 hc0 rfl)
                        have r335 : 0 ≤ (m323 a0 48) ∧ (m323 a0 48) ≤ 64 := zi_rd hIm323 hc0 zb_28_48
                        have e336 : (m323 a0 48) = (mh a0 48) := (zfr_ap hfm323 hc0 rfl)
                        have r337 : 0 ≤ (m323 a0 47) ∧ (m323 a0 47) ≤ 8 := zi_rd hIm323 hc0 zb_28_47
                        have e338 : (m323 a0 47) = (mh a0 47) := (zfr_ap hfm323 hc0 rfl)
                        have r339 : 0 ≤ (m323 a0 7) ∧ (m323 a0 7) ≤ 700 := zi_rd hIm323 hc0 zb_28_7
                        have e340 : (m323 a0 7) = (mh a0 7) := (zfr_ap hfm323 hc0 rfl)
                        have r341 : (-2147483648) ≤ (m323 a0 4) ∧ (m323 a0 4) ≤ 2147483647 := zi_rd hIm323 hc0 zb_28_4
                        have e342 : (m323 a0 4) = (mh a0 4) := (zfr_ap hfm323 hc0 rfl)
                        have hM : 0 < (k : Int) := by omega
                        exact ih.2.2 y0 m323 hIm323 hFm323 hLm323 ⟨by omega, by omega⟩ ⟨by omega, by omega⟩ (by omega) (by omega) (by omega) (by omega) (by omega) (by omega) (by omega) (by omega) hRKNm323 hRNSm323 hRTRm323 hRWDm323 hM
                      · exfalso; omega
                  · exfalso; omega
              · exfalso; omega
            · exfalso; omega
        · refine zw_some ?_
          refine zw_ite (fun h343 => ?_) (fun h343 => ?_)
          · refine zw_bd (zw_eq (zu_call_at (zt_T n) (zm_109 n) (zdp_109 n) _ _ _ _ _ rfl (zr_109_0 n _ _ y0 mh)) ?_)
            refine zw_ite (fun h344 => ?_) (fun h344 => ?_)
            · exfalso; omega
            · refine zw_some ?_
              refine zw_bd (zw_mono (zk_112k n hImh hc0 ⟨by decide, by decide⟩ (by omega) (by omega) (by omega) hRKNmh) (fun v346 m345 hqm345 => ?_))
              obtain ⟨hIm345, hfm345, hlm345, hvm345⟩ := hqm345
              have hFm345 := zfr_tr hFmh hfm345 rfl
              have hLm345 := zlot_go hLmh hlm345
              obtain ⟨hRKNm345, hvm345⟩ := hvm345
              have hRNSm345 := zR_NS_fr (zdis_fr hfm345 rfl) hRNSmh
              have hRTRm345 := zR_TR_fr (zdis_fr hfm345 rfl) hRTRmh
              have hRWDm345 := zR_WD_fr (zdis_fr hfm345 rfl) hRWDmh
              have g347 := zwt_bd hIm345 hc0
              have s348 := hRNSm345 a0 hc0
              have r349 : 0 ≤ (m345 a0 21) ∧ (m345 a0 21) ≤ 64 := zi_rd hIm345 hc0 zb_28_21
              have r350 : 0 ≤ (m345 a0 46) ∧ (m345 a0 46) ≤ 96 := zi_rd hIm345 hc0 zb_28_46
              have r351 : 0 ≤ (m345 a0 45) ∧ (m345 a0 45) ≤ 96 := zi_rd hIm345 hc0 zb_28_45
              refine zw_bd (zw_eq (zu_call_at (zt_T n) (zm_109 n) (zdp_109 n) _ _ _ _ _ rfl (zr_109_0 n _ _ y0 m345)) ?_)
              refine zw_ite (fun h352 => ?_) (fun h352 => ?_)
              · exfalso; omega
              · refine zw_some ?_
                refine zw_ite (fun h353 => ?_) (fun h353 => ?_)
                · have r354 : 0 ≤ (m345 a0 49) ∧ (m345 a0 49) ≤ 1 := zi_rd hIm345 hc0 zb_28_49
                  have e355 : (m345 a0 49) = (mh a0 49) := (zfr_ap hfm345 hc0 rfl)
                  have r356 : 0 ≤ (m345 a0 48) ∧ (m345 a0 48) ≤ 64 := zi_rd hIm345 hc0 zb_28_48
                  have e357 : (m345 a0 48) = (mh a0 48) := (zfr_ap hfm345 hc0 rfl)
                  have r358 : 0 ≤ (m345 a0 47) ∧ (m345 a0 47) ≤ 8 := zi_rd hIm345 hc0 zb_28_47
                  have e359 : (m345 a0 47) = (mh a0 47) := (zfr_ap hfm345 hc0 rfl)
                  have r360 : 0 ≤ (m345 a0 7) ∧ (m345 a0 7) ≤ 700 := zi_rd hIm345 hc0 zb_28_7
                  have e361 : (m345 a0 7) = (mh a0 7) := (zfr_ap hfm345 hc0 rfl)
                  have r362 : (-2147483648) ≤ (m345 a0 4) ∧ (m345 a0 4) ≤ 2147483647 := zi_rd hIm345 hc0 zb_28_4
                  have e363 : (m345 a0 4) = (mh a0 4) := (zfr_ap hfm345 hc0 rfl)
                  have hM : 0 < (k : Int) := by omega
                  exact ih.2.2 y0 m345 hIm345 hFm345 hLm345 ⟨by omega, by omega⟩ ⟨by omega, by omega⟩ (by omega) (by omega) (by omega) (by omega) (by omega) (by omega) (by omega) (by omega) hRKNm345 hRNSm345 hRTRm345 hRWDm345 hM
                · exfalso; omega
          · exfalso; omega
      · refine zw_bd (zw_eq (zu_call_at (zt_T n) (zm_85 n) (zdp_85 n) _ _ _ _ _ rfl (zr_85_0 n _ _ a0 1 mh)) ?_)
        generalize hmm364 : zu_up mh a0 4 1 = m364
        have hIm364 := zi_up hmm364 hImh hc0 zb_28_4 (by omega) (by omega)
        have hFm364 := zfr_up hmm364 hFmh hc0 rfl
        have hLm364 := zlot_i hmm364 hLmh hc0 (by decide)
        have g365 := zwt_fr (zdis_fr (zfr_up hmm364 (zfr_rf [(28, 5)] _) hc0 rfl) rfl)
        have hRKNm364 := zR_KN_fr (zdis_fr (zfr_up hmm364 (zfr_rf [(28, 5)] _) hc0 rfl) rfl) hRKNmh
        have hRNSm364 := zR_NS_fr (zdis_fr (zfr_up hmm364 (zfr_rf [(28, 5)] _) hc0 rfl) rfl) hRNSmh
        have hRTRm364 := zR_TR_fr (zdis_fr (zfr_up hmm364 (zfr_rf [(28, 5)] _) hc0 rfl) rfl) hRTRmh
        have hRWDm364 := zR_WD_fr (zdis_fr (zfr_up hmm364 (zfr_rf [(28, 5)] _) hc0 rfl) rfl) hRWDmh
        have hRLRm364 := zLR_wr (zone_190 hc0) hmm364 (by decide)
        have r366 : 0 ≤ (m364 a0 10) ∧ (m364 a0 10) ≤ 700 := zi_rd hIm364 hc0 zb_28_10
        generalize hmm367 : zu_up m364 a0 5 (m364 a0 10) = m367
        have hIm367 := zi_up hmm367 hIm364 hc0 zb_28_5 (by omega) (by omega)
        have hFm367 := zfr_up hmm367 hFm364 hc0 rfl
        have hLm367 := zlot_i hmm367 hLm364 hc0 (by decide)
        have g368 := zwt_fr (zdis_fr (zfr_up hmm367 (zfr_rf [(28, 6)] _) hc0 rfl) rfl)
        have hRKNm367 := zR_KN_fr (zdis_fr (zfr_up hmm367 (zfr_rf [(28, 6)] _) hc0 rfl) rfl) hRKNm364
        have hRLRm367 := zR_LR_fr (zdis_fr (zfr_up hmm367 (zfr_rf [(28, 6)] _) hc0 rfl) rfl) hRLRm364
        have hRNSm367 := zR_NS_fr (zdis_fr (zfr_up hmm367 (zfr_rf [(28, 6)] _) hc0 rfl) rfl) hRNSm364
        have hRTRm367 := zR_TR_fr (zdis_fr (zfr_up hmm367 (zfr_rf [(28, 6)] _) hc0 rfl) rfl) hRTRm364
        have hRWDm367 := zR_WD_fr (zdis_fr (zfr_up hmm367 (zfr_rf [(28, 6)] _) hc0 rfl) rfl) hRWDm364
        refine zw_b (by omega) ?_
        refine zw_some ?_
        refine zw_b (by omega) ?_
        have r369 : 0 ≤ (m367 a0 7) ∧ (m367 a0 7) ≤ 700 := zi_rd hIm367 hc0 zb_28_7
        have e370 : (m367 a0 7) = (mh a0 7) := (Eq.trans (zs_ne hmm367 (Or.inr (by decide))) (zs_ne hmm364 (Or.inr (by decide))))
        have r371 : 0 ≤ (m367 a0 8) ∧ (m367 a0 8) ≤ 6 := zi_rd hIm367 hc0 zb_28_8
        have r372 : 0 ≤ (m367 a0 21) ∧ (m367 a0 21) ≤ 64 := zi_rd hIm367 hc0 zb_28_21
        have e373 : (m367 a0 21) = (mh a0 21) := (Eq.trans (zs_ne hmm367 (Or.inr (by decide))) (zs_ne hmm364 (Or.inr (by decide))))
        have r374 : 0 ≤ (m367 a0 48) ∧ (m367 a0 48) ≤ 64 := zi_rd hIm367 hc0 zb_28_48
        have e375 : (m367 a0 48) = (mh a0 48) := (Eq.trans (zs_ne hmm367 (Or.inr (by decide))) (zs_ne hmm364 (Or.inr (by decide))))
        have r376 : 0 ≤ (m367 a0 46) ∧ (m367 a0 46) ≤ 96 := zi_rd hIm367 hc0 zb_28_46
        have e377 : (m367 a0 46) = (mh a0 46) := (Eq.trans (zs_ne hmm367 (Or.inr (by decide))) (zs_ne hmm364 (Or.inr (by decide))))
        have r378 : 0 ≤ (m367 a0 49) ∧ (m367 a0 49) ≤ 1 := zi_rd hIm367 hc0 zb_28_49
        have e379 : (m367 a0 49) = (mh a0 49) := (Eq.trans (zs_ne hmm367 (Or.inr (by decide))) (zs_ne hmm364 (Or.inr (by decide))))
        have r380 : 0 ≤ (m367 a0 45) ∧ (m367 a0 45) ≤ 96 := zi_rd hIm367 hc0 zb_28_45
        have e381 : (m367 a0 45) = (mh a0 45) := (Eq.trans (zs_ne hmm367 (Or.inr (by decide))) (zs_ne hmm364 (Or.inr (by decide))))
        have r382 : 0 ≤ (m367 a0 47) ∧ (m367 a0 47) ≤ 8 := zi_rd hIm367 hc0 zb_28_47
        have e383 : (m367 a0 47) = (mh a0 47) := (Eq.trans (zs_ne hmm367 (Or.inr (by decide))) (zs_ne hmm364 (Or.inr (by decide))))
        have r384 : (-2147483648) ≤ (m367 a0 4) ∧ (m367 a0 4) ≤ 2147483647 := zi_rd hIm367 hc0 zb_28_4
        have e385 : (m367 a0 4) = 1 := (Eq.trans (zs_ne hmm367 (Or.inr (by decide))) (zs_eq hmm364))
        exact zw_some ⟨hIm367, hFm367, hLm367, hRKNm367, hRNSm367, hRTRm367, hRWDm367, ⟨by decide, by decide⟩, by omega, fun h => absurd h (by decide), fun h => absurd h (by decide), fun h => absurd h (by decide), fun h => absurd h (by decide), fun h => absurd h (by decide), fun h => absurd h (by decide), fun _ => by omega⟩
set_option maxHeartbeats 4000000 in
theorem zl_117H2k (n : Nat) {a0 : Int} {m0 : zu_m} (hc0 : zcls a0 = 28)  (hxp0 : (m0 a0 21) + znz m0 = (m0 a0 48)) (hxp1 : (m0 a0 45) = znz m0 + (m0 a0 47)) (hxp2 : (m0 a0 46) = zbi m0 + 1) (hxp3 : (m0 a0 49) = 0) (hxp4 : 1 ≤ (m0 a0 21)) (k : Nat) (ih : (∀ (mh : zu_m), zi_I mh → zfr [(28, 5), (28, 6), (28, 8), (28, 9), (28, 10), (28, 11), (28, 22), (28, 46), (28, 47), (28, 48), (28, 49), (28, 50), (28, 51), (117, 0), (118, 0), (119, 0), (120, 0), (121, 0)] m0 mh → zlot m0 mh → (0 ≤ mh a0 49 ∧ mh a0 49 ≤ 0) → ((mh a0 21) + znz mh = (mh a0 48)) → ((mh a0 45) = znz mh + (mh a0 47)) → ((mh a0 46) = zbi mh + 1) → (1 ≤ (mh a0 21)) → ((mh a0 7) = (m0 a0 7)) → ((mh a0 8) = (m0 a0 8)) → ((mh a0 4) = (m0 a0 4)) → (zR_KN mh) → (zR_NS mh) → (zR_TR mh) → (zR_WD mh) → 2 < (k : Int) → zw (zu_ex (zt_T n) 117 47 [(40, a0), (2, 0)] [] mh) (fun v m => zi_I m ∧ zfr [(28, 5), (28, 6), (28, 8), (28, 9), (28, 10), (28, 11), (28, 22), (28, 46), (28, 47), (28, 48), (28, 49), (28, 50), (28, 51), (117, 0), (118, 0), (119, 0), (120, 0), (121, 0)] m0 m ∧ zlot m0 m ∧ zR_KN m ∧ zR_NS m ∧ zR_TR m ∧ zR_WD m ∧ (0 ≤ v ∧ v ≤ 1) ∧ ((m0 a0 7) ≤ (m a0 7)) ∧ (v = 1 → ((m0 a0 8) ≠ 0 ∧ ((m a0 8) = 0 ∨ (m0 a0 7) < (m a0 7)))) ∧ (v = 1 → (m a0 21) + znz m = (m a0 48)) ∧ (v = 1 → (m a0 46) + (m a0 49) = zbi m + 1) ∧ (v = 1 → (m a0 45) = znz m + (m a0 47)) ∧ (v = 1 → ((m a0 49) = 0 → 1 ≤ (m a0 21))) ∧ (v = 1 → (m a0 4) = (m0 a0 4)) ∧ (v = 0 → (m a0 4) ≠ 0))) ∧ (∀ (y0 : Int) (mh : zu_m), zi_I mh → zfr [(28, 5), (28, 6), (28, 8), (28, 9), (28, 10), (28, 11), (28, 22), (28, 46), (28, 47), (28, 48), (28, 49), (28, 50), (28, 51), (117, 0), (118, 0), (119, 0), (120, 0), (121, 0)] m0 mh → zlot m0 mh → (0 ≤ y0 ∧ y0 ≤ 14) → (0 ≤ mh a0 49 ∧ mh a0 49 ≤ 0) → ((mh a0 21) + znz mh = (mh a0 48)) → ((mh a0 45) = znz mh + (mh a0 47)) → ((mh a0 46) = zbi mh + 1) → (1 ≤ (mh a0 21)) → ((mh a0 7) = (m0 a0 7)) → (y0 ≠ 0 → (m0 a0 8) ≠ 0) → (y0 = 0 ∨ 3 ≤ y0) → ((mh a0 4) = (m0 a0 4)) → (zR_KN mh) → (zR_NS mh) → (zR_TR mh) → (zR_WD mh) → 1 < (k : Int) → zw (zu_ex (zt_T n) 117 147 [(40, a0), (2, 0)] [(0, y0)] mh) (fun v m => zi_I m ∧ zfr [(28, 5), (28, 6), (28, 8), (28, 9), (28, 10), (28, 11), (28, 22), (28, 46), (28, 47), (28, 48), (28, 49), (28, 50), (28, 51), (117, 0), (118, 0), (119, 0), (120, 0), (121, 0)] m0 m ∧ zlot m0 m ∧ zR_KN m ∧ zR_NS m ∧ zR_TR m ∧ zR_WD m ∧ (0 ≤ v ∧ v ≤ 1) ∧ ((m0 a0 7) ≤ (m a0 7)) ∧ (v = 1 → ((m0 a0 8) ≠ 0 ∧ ((m a0 8) = 0 ∨ (m0 a0 7) < (m a0 7)))) ∧ (v = 1 → (m a0 21) + znz m = (m a0 48)) ∧ (v = 1 → (m a0 46) + (m a0 49) = zbi m + 1) ∧ (v = 1 → (m a0 45) = znz m + (m a0 47)) ∧ (v = 1 → ((m a0 49) = 0 → 1 ≤ (m a0 21))) ∧ (v = 1 → (m a0 4) = (m0 a0 4)) ∧ (v = 0 → (m a0 4) ≠ 0))) ∧ (∀ (x1 : Int) (mh : zu_m), zi_I mh → zfr [(28, 5), (28, 6), (28, 8), (28, 9), (28, 10), (28, 11), (28, 22), (28, 46), (28, 47), (28, 48), (28, 49), (28, 50), (28, 51), (117, 0), (118, 0), (119, 0), (120, 0), (121, 0)] m0 mh → zlot m0 mh → (1 ≤ x1 ∧ x1 ≤ 14) → (0 ≤ mh a0 49 ∧ mh a0 49 ≤ 0) → ((mh a0 21) + znz mh = (mh a0 48)) → ((mh a0 45) = znz mh + (mh a0 47)) → ((mh a0 46) = zbi mh + 1) → (1 ≤ (mh a0 21)) → ((mh a0 7) = (m0 a0 7)) → ((m0 a0 8) ≠ 0) → (3 ≤ x1) → ((mh a0 4) = (m0 a0 4)) → (zR_KN mh) → (zR_NS mh) → (zR_TR mh) → (zR_WD mh) → 0 < (k : Int) → zw (zu_ex (zt_T n) 117 217 [(40, a0), (0, x1)] [] mh) (fun v m => zi_I m ∧ zfr [(28, 5), (28, 6), (28, 8), (28, 9), (28, 10), (28, 11), (28, 22), (28, 46), (28, 47), (28, 48), (28, 49), (28, 50), (28, 51), (117, 0), (118, 0), (119, 0), (120, 0), (121, 0)] m0 m ∧ zlot m0 m ∧ zR_KN m ∧ zR_NS m ∧ zR_TR m ∧ zR_WD m ∧ (0 ≤ v ∧ v ≤ 1) ∧ ((m0 a0 7) ≤ (m a0 7)) ∧ (v = 1 → ((m0 a0 8) ≠ 0 ∧ ((m a0 8) = 0 ∨ (m0 a0 7) < (m a0 7)))) ∧ (v = 1 → (m a0 21) + znz m = (m a0 48)) ∧ (v = 1 → (m a0 46) + (m a0 49) = zbi m + 1) ∧ (v = 1 → (m a0 45) = znz m + (m a0 47)) ∧ (v = 1 → ((m a0 49) = 0 → 1 ≤ (m a0 21))) ∧ (v = 1 → (m a0 4) = (m0 a0 4)) ∧ (v = 0 → (m a0 4) ≠ 0)))) : (∀ (x1 : Int) (mh : zu_m), zi_I mh → zfr [(28, 5), (28, 6), (28, 8), (28, 9), (28, 10), (28, 11), (28, 22), (28, 46), (28, 47), (28, 48), (28, 49), (28, 50), (28, 51), (117, 0), (118, 0), (119, 0), (120, 0), (121, 0)] m0 mh → zlot m0 mh → (1 ≤ x1 ∧ x1 ≤ 14) → (0 ≤ mh a0 49 ∧ mh a0 49 ≤ 0) → ((mh a0 21) + znz mh = (mh a0 48)) → ((mh a0 45) = znz mh + (mh a0 47)) → ((mh a0 46) = zbi mh + 1) → (1 ≤ (mh a0 21)) → ((mh a0 7) = (m0 a0 7)) → ((m0 a0 8) ≠ 0) → (3 ≤ x1) → ((mh a0 4) = (m0 a0 4)) → (zR_KN mh) → (zR_NS mh) → (zR_TR mh) → (zR_WD mh) → 0 < ((k + 1 : Nat) : Int) → zw (zu_ex (zt_T n) 117 217 [(40, a0), (0, x1)] [] mh) (fun v m => zi_I m ∧ zfr [(28, 5), (28, 6), (28, 8), (28, 9), (28, 10), (28, 11), (28, 22), (28, 46), (28, 47), (28, 48), (28, 49), (28, 50), (28, 51), (117, 0), (118, 0), (119, 0), (120, 0), (121, 0)] m0 m ∧ zlot m0 m ∧ zR_KN m ∧ zR_NS m ∧ zR_TR m ∧ zR_WD m ∧ (0 ≤ v ∧ v ≤ 1) ∧ ((m0 a0 7) ≤ (m a0 7)) ∧ (v = 1 → ((m0 a0 8) ≠ 0 ∧ ((m a0 8) = 0 ∨ (m0 a0 7) < (m a0 7)))) ∧ (v = 1 → (m a0 21) + znz m = (m a0 48)) ∧ (v = 1 → (m a0 46) + (m a0 49) = zbi m + 1) ∧ (v = 1 → (m a0 45) = znz m + (m a0 47)) ∧ (v = 1 → ((m a0 49) = 0 → 1 ≤ (m a0 21))) ∧ (v = 1 → (m a0 4) = (m0 a0 4)) ∧ (v = 0 → (m a0 4) ≠ 0))) := by
      intro x1 mh hImh hFmh hLmh hbx1 hg1 hH0 hH1 hH2 hH3 hH4 hH5 hH6 hH7 hRKNmh hRNSmh hRTRmh hRWDmh hM
      refine zw_eq (zu_rega_at (zt_T n) (zm_117 n) (zdp_117 n) _ _ _ _ _ _ (zr_117_217 n _ _ a0 x1 mh)) ?_
      have r386 : 0 ≤ (mh a0 21) ∧ (mh a0 21) ≤ 64 := zi_rd hImh hc0 zb_28_21
      have r387 : 0 ≤ (mh a0 48) ∧ (mh a0 48) ≤ 64 := zi_rd hImh hc0 zb_28_48
      have r388 : 0 ≤ (mh a0 45) ∧ (mh a0 45) ≤ 96 := zi_rd hImh hc0 zb_28_45
      have r389 : 0 ≤ (mh a0 47) ∧ (mh a0 47) ≤ 8 := zi_rd hImh hc0 zb_28_47
      have r390 : 0 ≤ (mh a0 46) ∧ (mh a0 46) ≤ 96 := zi_rd hImh hc0 zb_28_46
      have r391 : 0 ≤ (mh a0 7) ∧ (mh a0 7) ≤ 700 := zi_rd hImh hc0 zb_28_7
      have r392 : (-2147483648) ≤ (mh a0 4) ∧ (mh a0 4) ≤ 2147483647 := zi_rd hImh hc0 zb_28_4
      have g393 := zwt_bd hImh hc0
      have s394 := hRNSmh a0 hc0
      refine zw_bd (zw_eq (zu_call_at (zt_T n) (zm_113 n) (zdp_113 n) _ _ _ _ _ rfl (zr_113_0 n _ _ a0 mh)) ?_)
      refine zw_ite (fun h395 => ?_) (fun h395 => ?_)
      · have w396 := zu_w32_id (z := (mh a0 48) + 1) (by omega) (by omega)
        generalize hmm397 : zu_up mh a0 48 (zu_w32 ((mh a0 48) + 1)) = m397
        have hIm397 := zi_up hmm397 hImh hc0 zb_28_48 (by omega) (by omega)
        have hFm397 := zfr_up hmm397 hFmh hc0 rfl
        have hLm397 := zlot_i hmm397 hLmh hc0 (by decide)
        have g398 := zwt_fr (zdis_fr (zfr_up hmm397 (zfr_rf [(28, 49)] _) hc0 rfl) rfl)
        have hRKNm397 := zR_KN_fr (zdis_fr (zfr_up hmm397 (zfr_rf [(28, 49)] _) hc0 rfl) rfl) hRKNmh
        have hRNSm397 := zR_NS_fr (zdis_fr (zfr_up hmm397 (zfr_rf [(28, 49)] _) hc0 rfl) rfl) hRNSmh
        have hRTRm397 := zR_TR_fr (zdis_fr (zfr_up hmm397 (zfr_rf [(28, 49)] _) hc0 rfl) rfl) hRTRmh
        have hRWDm397 := zR_WD_fr (zdis_fr (zfr_up hmm397 (zfr_rf [(28, 49)] _) hc0 rfl) rfl) hRWDmh
        refine zw_b (by omega) ?_
        refine zw_some ?_
        refine zw_ite (fun h399 => ?_) (fun h399 => ?_)
        · refine zw_bd (zw_eq (zu_call_at (zt_T n) (zm_114 n) (zdp_114 n) _ _ _ _ _ rfl (zr_114_0 n _ _ a0 x1 m397)) ?_)
          have r400 : 0 ≤ (m397 a0 45) ∧ (m397 a0 45) ≤ 96 := zi_rd hIm397 hc0 zb_28_45
          have e401 : (m397 a0 45) = (mh a0 45) := (zs_ne hmm397 (Or.inr (by decide)))
          have b402 : 0 ≤ (m397 a0 45) ∧ (m397 a0 45) < 96 := by omega
          refine zw_if b402 ?_
          generalize hmm403 : zu_up m397 211 (m397 a0 45) x1 = m403
          have hIm403 := zi_up hmm403 hIm397 zq_211 (zb_120 _) (by omega) (by omega)
          have hFm403 := zfr_up hmm403 hFm397 zq_211 rfl
          have hLm403 := zlot_ne hmm403 hLm397 zq_211 (by decide) (by decide) (by decide) (by decide)
          have hRKNm403 := zR_KN_fr (zdis_fr (zfr_up hmm403 (zfr_rf [(120, 0)] _) zq_211 rfl) rfl) hRKNm397
          have hRNSm403 := zR_NS_fr (zdis_fr (zfr_up hmm403 (zfr_rf [(120, 0)] _) zq_211 rfl) rfl) hRNSm397
          have hRTRm403 := zR_TR_fr (zdis_fr (zfr_up hmm403 (zfr_rf [(120, 0)] _) zq_211 rfl) rfl) hRTRm397
          have hRWDm403 := zR_WD_fr (zdis_fr (zfr_up hmm403 (zfr_rf [(120, 0)] _) zq_211 rfl) rfl) hRWDm397
          have r404 : 0 ≤ (m403 a0 45) ∧ (m403 a0 45) ≤ 96 := zi_rd hIm403 hc0 zb_28_45
          have e405 : (m403 a0 45) = (m397 a0 45) := (zs_ne hmm403 (Or.inl (zc_ne hc0 zq_211 (by decide))))
          have w406 := zu_w32_id (z := (m403 a0 45) + 1) (by omega) (by omega)
          generalize hmm407 : zu_up m403 a0 45 (zu_w32 ((m403 a0 45) + 1)) = m407
          have hIm407 := zi_up hmm407 hIm403 hc0 zb_28_45 (by omega) (by omega)
          have hFm407 := zfr_up hmm407 hFm403 hc0 rfl
          have hLm407 := zlot_i hmm407 hLm403 hc0 (by decide)
          have hRKNm407 := zR_KN_fr (zdis_fr (zfr_up hmm407 (zfr_rf [(28, 46)] _) hc0 rfl) rfl) hRKNm403
          have hRNSm407 := zR_NS_fr (zdis_fr (zfr_up hmm407 (zfr_rf [(28, 46)] _) hc0 rfl) rfl) hRNSm403
          have hRTRm407 := zR_TR_fr (zdis_fr (zfr_up hmm407 (zfr_rf [(28, 46)] _) hc0 rfl) rfl) hRTRm403
          have hRWDm407 := zR_WD_fr (zdis_fr (zfr_up hmm407 (zfr_rf [(28, 46)] _) hc0 rfl) rfl) hRWDm403
          have g408 := zwt_push hmm403 hmm407 hc0 (by omega) (by omega) (by omega)
          have g409 := zwt_bd hIm407 hc0
          refine zw_some ?_
          refine zw_b (by omega) ?_
          generalize hmm410 : zu_up m407 a0 49 1 = m410
          have hIm410 := zi_up hmm410 hIm407 hc0 zb_28_49 (by omega) (by omega)
          have hFm410 := zfr_up hmm410 hFm407 hc0 rfl
          have hLm410 := zlot_i hmm410 hLm407 hc0 (by decide)
          have g411 := zwt_fr (zdis_fr (zfr_up hmm410 (zfr_rf [(28, 50)] _) hc0 rfl) rfl)
          have hRKNm410 := zR_KN_fr (zdis_fr (zfr_up hmm410 (zfr_rf [(28, 50)] _) hc0 rfl) rfl) hRKNm407
          have hRNSm410 := zR_NS_fr (zdis_fr (zfr_up hmm410 (zfr_rf [(28, 50)] _) hc0 rfl) rfl) hRNSm407
          have hRTRm410 := zR_TR_fr (zdis_fr (zfr_up hmm410 (zfr_rf [(28, 50)] _) hc0 rfl) rfl) hRTRm407
          have hRWDm410 := zR_WD_fr (zdis_fr (zfr_up hmm410 (zfr_rf [(28, 50)] _) hc0 rfl) rfl) hRWDm407
          refine zw_bd (zw_eq (zu_call_at (zt_T n) (zm_109 n) (zdp_109 n) _ _ _ _ _ rfl (zr_109_0 n _ _ x1 m410)) ?_)
          refine zw_ite (fun h412 => ?_) (fun h412 => ?_)
          · refine zw_ite (fun h413 => ?_) (fun h413 => ?_)
            · refine zw_ite (fun h414 => ?_) (fun h414 => ?_)
              · refine zw_ite (fun h415 => ?_) (fun h415 => ?_)
                · refine zw_ite (fun h416 => ?_) (fun h416 => ?_)
                  · refine zw_ite (fun h417 => ?_) (fun h417 => ?_)
                    · refine zw_some ?_
                      refine zw_ite (fun h418 => ?_) (fun h418 => ?_)
                      · exfalso; omega
                      · refine zw_b (by omega) ?_
                        generalize hmm419 : zu_up m410 a0 50 1 = m419
                        have hIm419 := zi_up hmm419 hIm410 hc0 zb_28_50 (by omega) (by omega)
                        have hFm419 := zfr_up hmm419 hFm410 hc0 rfl
                        have hLm419 := zlot_i hmm419 hLm410 hc0 (by decide)
                        have g420 := zwt_fr (zdis_fr (zfr_up hmm419 (zfr_rf [(28, 51)] _) hc0 rfl) rfl)
                        have hRKNm419 := zR_KN_fr (zdis_fr (zfr_up hmm419 (zfr_rf [(28, 51)] _) hc0 rfl) rfl) hRKNm410
                        have hRNSm419 := zR_NS_fr (zdis_fr (zfr_up hmm419 (zfr_rf [(28, 51)] _) hc0 rfl) rfl) hRNSm410
                        have hRTRm419 := zR_TR_fr (zdis_fr (zfr_up hmm419 (zfr_rf [(28, 51)] _) hc0 rfl) rfl) hRTRm410
                        have hRWDm419 := zR_WD_fr (zdis_fr (zfr_up hmm419 (zfr_rf [(28, 51)] _) hc0 rfl) rfl) hRWDm410
                        have r423 : 0 ≤ (m419 a0 7) ∧ (m419 a0 7) ≤ 700 := zi_rd hIm419 hc0 zb_28_7
                        have e424 : (m419 a0 7) = (mh a0 7) := (Eq.trans (zs_ne hmm419 (Or.inr (by decide))) (Eq.trans (zs_ne hmm410 (Or.inr (by decide))) (Eq.trans (zs_ne hmm407 (Or.inr (by decide))) (Eq.trans (zs_ne hmm403 (Or.inl (zc_ne hc0 zq_211 (by decide)))) (zs_ne hmm397 (Or.inr (by decide)))))))
                        refine zw_bd (zw_mono (zk_89 n hIm419 hc0 hRNSm419 hRWDm419) (fun v422 m421 hqm421 => ?_))
                        obtain ⟨hIm421, hfm421, hvm421⟩ := hqm421
                        have hFm421 := zfr_tr hFm419 hfm421 rfl
                        have hLm421 := zlot_go hLm419 (zlot_f hfm421 rfl)
                        obtain ⟨hRNSm421, hRTRm421, hRWDm421, hvm421⟩ := hvm421
                        have g425 := zwt_fr (zdis_fr hfm421 rfl)
                        have hRKNm421 := zR_KN_fr (zdis_fr hfm421 rfl) hRKNm419
                        have g426 := zwt_bd hIm421 hc0
                        have s427 := hRNSm421 a0 hc0
                        have r428 : 0 ≤ (m421 a0 7) ∧ (m421 a0 7) ≤ 700 := zi_rd hIm421 hc0 zb_28_7
                        have r429 : 0 ≤ (m421 a0 8) ∧ (m421 a0 8) ≤ 6 := zi_rd hIm421 hc0 zb_28_8
                        refine zw_b (by omega) ?_
                        have r430 : 0 ≤ (m421 a0 21) ∧ (m421 a0 21) ≤ 64 := zi_rd hIm421 hc0 zb_28_21
                        have e431 : (m421 a0 21) = (mh a0 21) := (Eq.trans (zfr_ap hfm421 hc0 rfl) (Eq.trans (zs_ne hmm419 (Or.inr (by decide))) (Eq.trans (zs_ne hmm410 (Or.inr (by decide))) (Eq.trans (zs_ne hmm407 (Or.inr (by decide))) (Eq.trans (zs_ne hmm403 (Or.inl (zc_ne hc0 zq_211 (by decide)))) (zs_ne hmm397 (Or.inr (by decide))))))))
                        have r432 : 0 ≤ (m421 a0 48) ∧ (m421 a0 48) ≤ 64 := zi_rd hIm421 hc0 zb_28_48
                        have e433 : (m421 a0 48) = (zu_w32 ((mh a0 48) + 1)) := (Eq.trans (zfr_ap hfm421 hc0 rfl) (Eq.trans (zs_ne hmm419 (Or.inr (by decide))) (Eq.trans (zs_ne hmm410 (Or.inr (by decide))) (Eq.trans (zs_ne hmm407 (Or.inr (by decide))) (Eq.trans (zs_ne hmm403 (Or.inl (zc_ne hc0 zq_211 (by decide)))) (zs_eq hmm397))))))
                        have r434 : 0 ≤ (m421 a0 46) ∧ (m421 a0 46) ≤ 96 := zi_rd hIm421 hc0 zb_28_46
                        have e435 : (m421 a0 46) = (mh a0 46) := (Eq.trans (zfr_ap hfm421 hc0 rfl) (Eq.trans (zs_ne hmm419 (Or.inr (by decide))) (Eq.trans (zs_ne hmm410 (Or.inr (by decide))) (Eq.trans (zs_ne hmm407 (Or.inr (by decide))) (Eq.trans (zs_ne hmm403 (Or.inl (zc_ne hc0 zq_211 (by decide)))) (zs_ne hmm397 (Or.inr (by decide))))))))
                        have r436 : 0 ≤ (m421 a0 49) ∧ (m421 a0 49) ≤ 1 := zi_rd hIm421 hc0 zb_28_49
                        have e437 : (m421 a0 49) = 1 := (Eq.trans (zfr_ap hfm421 hc0 rfl) (Eq.trans (zs_ne hmm419 (Or.inr (by decide))) (zs_eq hmm410)))
                        have r438 : 0 ≤ (m421 a0 45) ∧ (m421 a0 45) ≤ 96 := zi_rd hIm421 hc0 zb_28_45
                        have e439 : (m421 a0 45) = (zu_w32 ((m403 a0 45) + 1)) := (Eq.trans (zfr_ap hfm421 hc0 rfl) (Eq.trans (zs_ne hmm419 (Or.inr (by decide))) (Eq.trans (zs_ne hmm410 (Or.inr (by decide))) (zs_eq hmm407))))
                        have r440 : 0 ≤ (m421 a0 47) ∧ (m421 a0 47) ≤ 8 := zi_rd hIm421 hc0 zb_28_47
                        have e441 : (m421 a0 47) = (mh a0 47) := (Eq.trans (zfr_ap hfm421 hc0 rfl) (Eq.trans (zs_ne hmm419 (Or.inr (by decide))) (Eq.trans (zs_ne hmm410 (Or.inr (by decide))) (Eq.trans (zs_ne hmm407 (Or.inr (by decide))) (Eq.trans (zs_ne hmm403 (Or.inl (zc_ne hc0 zq_211 (by decide)))) (zs_ne hmm397 (Or.inr (by decide))))))))
                        have r442 : (-2147483648) ≤ (m421 a0 4) ∧ (m421 a0 4) ≤ 2147483647 := zi_rd hIm421 hc0 zb_28_4
                        have e443 : (m421 a0 4) = (mh a0 4) := (Eq.trans (zfr_ap hfm421 hc0 rfl) (Eq.trans (zs_ne hmm419 (Or.inr (by decide))) (Eq.trans (zs_ne hmm410 (Or.inr (by decide))) (Eq.trans (zs_ne hmm407 (Or.inr (by decide))) (Eq.trans (zs_ne hmm403 (Or.inl (zc_ne hc0 zq_211 (by decide)))) (zs_ne hmm397 (Or.inr (by decide))))))))
                        exact zw_some ⟨hIm421, hFm421, hLm421, hRKNm421, hRNSm421, hRTRm421, hRWDm421, ⟨by decide, by decide⟩, by omega, fun _ => by omega, fun _ => by omega, fun _ => by omega, fun _ => by omega, fun _ => by omega, fun _ => by omega, fun h => absurd h (by decide)⟩
                    · refine zw_some ?_
                      refine zw_ite (fun h444 => ?_) (fun h444 => ?_)
                      · exfalso; omega
                      · refine zw_b (by omega) ?_
                        generalize hmm445 : zu_up m410 a0 50 1 = m445
                        have hIm445 := zi_up hmm445 hIm410 hc0 zb_28_50 (by omega) (by omega)
                        have hFm445 := zfr_up hmm445 hFm410 hc0 rfl
                        have hLm445 := zlot_i hmm445 hLm410 hc0 (by decide)
                        have g446 := zwt_fr (zdis_fr (zfr_up hmm445 (zfr_rf [(28, 51)] _) hc0 rfl) rfl)
                        have hRKNm445 := zR_KN_fr (zdis_fr (zfr_up hmm445 (zfr_rf [(28, 51)] _) hc0 rfl) rfl) hRKNm410
                        have hRNSm445 := zR_NS_fr (zdis_fr (zfr_up hmm445 (zfr_rf [(28, 51)] _) hc0 rfl) rfl) hRNSm410
                        have hRTRm445 := zR_TR_fr (zdis_fr (zfr_up hmm445 (zfr_rf [(28, 51)] _) hc0 rfl) rfl) hRTRm410
                        have hRWDm445 := zR_WD_fr (zdis_fr (zfr_up hmm445 (zfr_rf [(28, 51)] _) hc0 rfl) rfl) hRWDm410
                        have r449 : 0 ≤ (m445 a0 7) ∧ (m445 a0 7) ≤ 700 := zi_rd hIm445 hc0 zb_28_7
                        have e450 : (m445 a0 7) = (mh a0 7) := (Eq.trans (zs_ne hmm445 (Or.inr (by decide))) (Eq.trans (zs_ne hmm410 (Or.inr (by decide))) (Eq.trans (zs_ne hmm407 (Or.inr (by decide))) (Eq.trans (zs_ne hmm403 (Or.inl (zc_ne hc0 zq_211 (by decide)))) (zs_ne hmm397 (Or.inr (by decide)))))))
                        refine zw_bd (zw_mono (zk_89 n hIm445 hc0 hRNSm445 hRWDm445) (fun v448 m447 hqm447 => ?_))
                        obtain ⟨hIm447, hfm447, hvm447⟩ := hqm447
                        have hFm447 := zfr_tr hFm445 hfm447 rfl
                        have hLm447 := zlot_go hLm445 (zlot_f hfm447 rfl)
                        obtain ⟨hRNSm447, hRTRm447, hRWDm447, hvm447⟩ := hvm447
                        have g451 := zwt_fr (zdis_fr hfm447 rfl)
                        have hRKNm447 := zR_KN_fr (zdis_fr hfm447 rfl) hRKNm445
                        have g452 := zwt_bd hIm447 hc0
                        have s453 := hRNSm447 a0 hc0
                        have r454 : 0 ≤ (m447 a0 7) ∧ (m447 a0 7) ≤ 700 := zi_rd hIm447 hc0 zb_28_7
                        have r455 : 0 ≤ (m447 a0 8) ∧ (m447 a0 8) ≤ 6 := zi_rd hIm447 hc0 zb_28_8
                        refine zw_b (by omega) ?_
                        have r456 : 0 ≤ (m447 a0 21) ∧ (m447 a0 21) ≤ 64 := zi_rd hIm447 hc0 zb_28_21
                        have e457 : (m447 a0 21) = (mh a0 21) := (Eq.trans (zfr_ap hfm447 hc0 rfl) (Eq.trans (zs_ne hmm445 (Or.inr (by decide))) (Eq.trans (zs_ne hmm410 (Or.inr (by decide))) (Eq.trans (zs_ne hmm407 (Or.inr (by decide))) (Eq.trans (zs_ne hmm403 (Or.inl (zc_ne hc0 zq_211 (by decide)))) (zs_ne hmm397 (Or.inr (by decide))))))))
                        have r458 : 0 ≤ (m447 a0 48) ∧ (m447 a0 48) ≤ 64 := zi_rd hIm447 hc0 zb_28_48
                        have e459 : (m447 a0 48) = (zu_w32 ((mh a0 48) + 1)) := (Eq.trans (zfr_ap hfm447 hc0 rfl) (Eq.trans (zs_ne hmm445 (Or.inr (by decide))) (Eq.trans (zs_ne hmm410 (Or.inr (by decide))) (Eq.trans (zs_ne hmm407 (Or.inr (by decide))) (Eq.trans (zs_ne hmm403 (Or.inl (zc_ne hc0 zq_211 (by decide)))) (zs_eq hmm397))))))
                        have r460 : 0 ≤ (m447 a0 46) ∧ (m447 a0 46) ≤ 96 := zi_rd hIm447 hc0 zb_28_46
                        have e461 : (m447 a0 46) = (mh a0 46) := (Eq.trans (zfr_ap hfm447 hc0 rfl) (Eq.trans (zs_ne hmm445 (Or.inr (by decide))) (Eq.trans (zs_ne hmm410 (Or.inr (by decide))) (Eq.trans (zs_ne hmm407 (Or.inr (by decide))) (Eq.trans (zs_ne hmm403 (Or.inl (zc_ne hc0 zq_211 (by decide)))) (zs_ne hmm397 (Or.inr (by decide))))))))
                        have r462 : 0 ≤ (m447 a0 49) ∧ (m447 a0 49) ≤ 1 := zi_rd hIm447 hc0 zb_28_49
                        have e463 : (m447 a0 49) = 1 := (Eq.trans (zfr_ap hfm447 hc0 rfl) (Eq.trans (zs_ne hmm445 (Or.inr (by decide))) (zs_eq hmm410)))
                        have r464 : 0 ≤ (m447 a0 45) ∧ (m447 a0 45) ≤ 96 := zi_rd hIm447 hc0 zb_28_45
                        have e465 : (m447 a0 45) = (zu_w32 ((m403 a0 45) + 1)) := (Eq.trans (zfr_ap hfm447 hc0 rfl) (Eq.trans (zs_ne hmm445 (Or.inr (by decide))) (Eq.trans (zs_ne hmm410 (Or.inr (by decide))) (zs_eq hmm407))))
                        have r466 : 0 ≤ (m447 a0 47) ∧ (m447 a0 47) ≤ 8 := zi_rd hIm447 hc0 zb_28_47
                        have e467 : (m447 a0 47) = (mh a0 47) := (Eq.trans (zfr_ap hfm447 hc0 rfl) (Eq.trans (zs_ne hmm445 (Or.inr (by decide))) (Eq.trans (zs_ne hmm410 (Or.inr (by decide))) (Eq.trans (zs_ne hmm407 (Or.inr (by decide))) (Eq.trans (zs_ne hmm403 (Or.inl (zc_ne hc0 zq_211 (by decide)))) (zs_ne hmm397 (Or.inr (by decide))))))))
                        have r468 : (-2147483648) ≤ (m447 a0 4) ∧ (m447 a0 4) ≤ 2147483647 := zi_rd hIm447 hc0 zb_28_4
                        have e469 : (m447 a0 4) = (mh a0 4) := (Eq.trans (zfr_ap hfm447 hc0 rfl) (Eq.trans (zs_ne hmm445 (Or.inr (by decide))) (Eq.trans (zs_ne hmm410 (Or.inr (by decide))) (Eq.trans (zs_ne hmm407 (Or.inr (by decide))) (Eq.trans (zs_ne hmm403 (Or.inl (zc_ne hc0 zq_211 (by decide)))) (zs_ne hmm397 (Or.inr (by decide))))))))
                        exact zw_some ⟨hIm447, hFm447, hLm447, hRKNm447, hRNSm447, hRTRm447, hRWDm447, ⟨by decide, by decide⟩, by omega, fun _ => by omega, fun _ => by omega, fun _ => by omega, fun _ => by omega, fun _ => by omega, fun _ => by omega, fun h => absurd h (by decide)⟩
                  · refine zw_some ?_
                    refine zw_ite (fun h470 => ?_) (fun h470 => ?_)
                    · exfalso; omega
                    · refine zw_b (by omega) ?_
                      generalize hmm471 : zu_up m410 a0 50 1 = m471
                      have hIm471 := zi_up hmm471 hIm410 hc0 zb_28_50 (by omega) (by omega)
                      have hFm471 := zfr_up hmm471 hFm410 hc0 rfl
                      have hLm471 := zlot_i hmm471 hLm410 hc0 (by decide)
                      have g472 := zwt_fr (zdis_fr (zfr_up hmm471 (zfr_rf [(28, 51)] _) hc0 rfl) rfl)
                      have hRKNm471 := zR_KN_fr (zdis_fr (zfr_up hmm471 (zfr_rf [(28, 51)] _) hc0 rfl) rfl) hRKNm410
                      have hRNSm471 := zR_NS_fr (zdis_fr (zfr_up hmm471 (zfr_rf [(28, 51)] _) hc0 rfl) rfl) hRNSm410
                      have hRTRm471 := zR_TR_fr (zdis_fr (zfr_up hmm471 (zfr_rf [(28, 51)] _) hc0 rfl) rfl) hRTRm410
                      have hRWDm471 := zR_WD_fr (zdis_fr (zfr_up hmm471 (zfr_rf [(28, 51)] _) hc0 rfl) rfl) hRWDm410
                      have r475 : 0 ≤ (m471 a0 7) ∧ (m471 a0 7) ≤ 700 := zi_rd hIm471 hc0 zb_28_7
                      have e476 : (m471 a0 7) = (mh a0 7) := (Eq.trans (zs_ne hmm471 (Or.inr (by decide))) (Eq.trans (zs_ne hmm410 (Or.inr (by decide))) (Eq.trans (zs_ne hmm407 (Or.inr (by decide))) (Eq.trans (zs_ne hmm403 (Or.inl (zc_ne hc0 zq_211 (by decide)))) (zs_ne hmm397 (Or.inr (by decide)))))))
                      refine zw_bd (zw_mono (zk_89 n hIm471 hc0 hRNSm471 hRWDm471) (fun v474 m473 hqm473 => ?_))
                      obtain ⟨hIm473, hfm473, hvm473⟩ := hqm473
                      have hFm473 := zfr_tr hFm471 hfm473 rfl
                      have hLm473 := zlot_go hLm471 (zlot_f hfm473 rfl)
                      obtain ⟨hRNSm473, hRTRm473, hRWDm473, hvm473⟩ := hvm473
                      have g477 := zwt_fr (zdis_fr hfm473 rfl)
                      have hRKNm473 := zR_KN_fr (zdis_fr hfm473 rfl) hRKNm471
                      have g478 := zwt_bd hIm473 hc0
                      have s479 := hRNSm473 a0 hc0
                      have r480 : 0 ≤ (m473 a0 7) ∧ (m473 a0 7) ≤ 700 := zi_rd hIm473 hc0 zb_28_7
                      have r481 : 0 ≤ (m473 a0 8) ∧ (m473 a0 8) ≤ 6 := zi_rd hIm473 hc0 zb_28_8
                      refine zw_b (by omega) ?_
                      have r482 : 0 ≤ (m473 a0 21) ∧ (m473 a0 21) ≤ 64 := zi_rd hIm473 hc0 zb_28_21
                      have e483 : (m473 a0 21) = (mh a0 21) := (Eq.trans (zfr_ap hfm473 hc0 rfl) (Eq.trans (zs_ne hmm471 (Or.inr (by decide))) (Eq.trans (zs_ne hmm410 (Or.inr (by decide))) (Eq.trans (zs_ne hmm407 (Or.inr (by decide))) (Eq.trans (zs_ne hmm403 (Or.inl (zc_ne hc0 zq_211 (by decide)))) (zs_ne hmm397 (Or.inr (by decide))))))))
                      have r484 : 0 ≤ (m473 a0 48) ∧ (m473 a0 48) ≤ 64 := zi_rd hIm473 hc0 zb_28_48
                      have e485 : (m473 a0 48) = (zu_w32 ((mh a0 48) + 1)) := (Eq.trans (zfr_ap hfm473 hc0 rfl) (Eq.trans (zs_ne hmm471 (Or.inr (by decide))) (Eq.trans (zs_ne hmm410 (Or.inr (by decide))) (Eq.trans (zs_ne hmm407 (Or.inr (by decide))) (Eq.trans (zs_ne hmm403 (Or.inl (zc_ne hc0 zq_211 (by decide)))) (zs_eq hmm397))))))
                      have r486 : 0 ≤ (m473 a0 46) ∧ (m473 a0 46) ≤ 96 := zi_rd hIm473 hc0 zb_28_46
                      have e487 : (m473 a0 46) = (mh a0 46) := (Eq.trans (zfr_ap hfm473 hc0 rfl) (Eq.trans (zs_ne hmm471 (Or.inr (by decide))) (Eq.trans (zs_ne hmm410 (Or.inr (by decide))) (Eq.trans (zs_ne hmm407 (Or.inr (by decide))) (Eq.trans (zs_ne hmm403 (Or.inl (zc_ne hc0 zq_211 (by decide)))) (zs_ne hmm397 (Or.inr (by decide))))))))
                      have r488 : 0 ≤ (m473 a0 49) ∧ (m473 a0 49) ≤ 1 := zi_rd hIm473 hc0 zb_28_49
                      have e489 : (m473 a0 49) = 1 := (Eq.trans (zfr_ap hfm473 hc0 rfl) (Eq.trans (zs_ne hmm471 (Or.inr (by decide))) (zs_eq hmm410)))
                      have r490 : 0 ≤ (m473 a0 45) ∧ (m473 a0 45) ≤ 96 := zi_rd hIm473 hc0 zb_28_45
                      have e491 : (m473 a0 45) = (zu_w32 ((m403 a0 45) + 1)) := (Eq.trans (zfr_ap hfm473 hc0 rfl) (Eq.trans (zs_ne hmm471 (Or.inr (by decide))) (Eq.trans (zs_ne hmm410 (Or.inr (by decide))) (zs_eq hmm407))))
                      have r492 : 0 ≤ (m473 a0 47) ∧ (m473 a0 47) ≤ 8 := zi_rd hIm473 hc0 zb_28_47
                      have e493 : (m473 a0 47) = (mh a0 47) := (Eq.trans (zfr_ap hfm473 hc0 rfl) (Eq.trans (zs_ne hmm471 (Or.inr (by decide))) (Eq.trans (zs_ne hmm410 (Or.inr (by decide))) (Eq.trans (zs_ne hmm407 (Or.inr (by decide))) (Eq.trans (zs_ne hmm403 (Or.inl (zc_ne hc0 zq_211 (by decide)))) (zs_ne hmm397 (Or.inr (by decide))))))))
                      have r494 : (-2147483648) ≤ (m473 a0 4) ∧ (m473 a0 4) ≤ 2147483647 := zi_rd hIm473 hc0 zb_28_4
                      have e495 : (m473 a0 4) = (mh a0 4) := (Eq.trans (zfr_ap hfm473 hc0 rfl) (Eq.trans (zs_ne hmm471 (Or.inr (by decide))) (Eq.trans (zs_ne hmm410 (Or.inr (by decide))) (Eq.trans (zs_ne hmm407 (Or.inr (by decide))) (Eq.trans (zs_ne hmm403 (Or.inl (zc_ne hc0 zq_211 (by decide)))) (zs_ne hmm397 (Or.inr (by decide))))))))
                      exact zw_some ⟨hIm473, hFm473, hLm473, hRKNm473, hRNSm473, hRTRm473, hRWDm473, ⟨by decide, by decide⟩, by omega, fun _ => by omega, fun _ => by omega, fun _ => by omega, fun _ => by omega, fun _ => by omega, fun _ => by omega, fun h => absurd h (by decide)⟩
                · refine zw_some ?_
                  refine zw_ite (fun h496 => ?_) (fun h496 => ?_)
                  · refine zw_b (by omega) ?_
                    generalize hmm497 : zu_up m410 a0 50 0 = m497
                    have hIm497 := zi_up hmm497 hIm410 hc0 zb_28_50 (by omega) (by omega)
                    have hFm497 := zfr_up hmm497 hFm410 hc0 rfl
                    have hLm497 := zlot_i hmm497 hLm410 hc0 (by decide)
                    have g498 := zwt_fr (zdis_fr (zfr_up hmm497 (zfr_rf [(28, 51)] _) hc0 rfl) rfl)
                    have hRKNm497 := zR_KN_fr (zdis_fr (zfr_up hmm497 (zfr_rf [(28, 51)] _) hc0 rfl) rfl) hRKNm410
                    have hRNSm497 := zR_NS_fr (zdis_fr (zfr_up hmm497 (zfr_rf [(28, 51)] _) hc0 rfl) rfl) hRNSm410
                    have hRTRm497 := zR_TR_fr (zdis_fr (zfr_up hmm497 (zfr_rf [(28, 51)] _) hc0 rfl) rfl) hRTRm410
                    have hRWDm497 := zR_WD_fr (zdis_fr (zfr_up hmm497 (zfr_rf [(28, 51)] _) hc0 rfl) rfl) hRWDm410
                    have r501 : 0 ≤ (m497 a0 7) ∧ (m497 a0 7) ≤ 700 := zi_rd hIm497 hc0 zb_28_7
                    have e502 : (m497 a0 7) = (mh a0 7) := (Eq.trans (zs_ne hmm497 (Or.inr (by decide))) (Eq.trans (zs_ne hmm410 (Or.inr (by decide))) (Eq.trans (zs_ne hmm407 (Or.inr (by decide))) (Eq.trans (zs_ne hmm403 (Or.inl (zc_ne hc0 zq_211 (by decide)))) (zs_ne hmm397 (Or.inr (by decide)))))))
                    refine zw_bd (zw_mono (zk_89 n hIm497 hc0 hRNSm497 hRWDm497) (fun v500 m499 hqm499 => ?_))
                    obtain ⟨hIm499, hfm499, hvm499⟩ := hqm499
                    have hFm499 := zfr_tr hFm497 hfm499 rfl
                    have hLm499 := zlot_go hLm497 (zlot_f hfm499 rfl)
                    obtain ⟨hRNSm499, hRTRm499, hRWDm499, hvm499⟩ := hvm499
                    have g503 := zwt_fr (zdis_fr hfm499 rfl)
                    have hRKNm499 := zR_KN_fr (zdis_fr hfm499 rfl) hRKNm497
                    have g504 := zwt_bd hIm499 hc0
                    have s505 := hRNSm499 a0 hc0
                    have r506 : 0 ≤ (m499 a0 7) ∧ (m499 a0 7) ≤ 700 := zi_rd hIm499 hc0 zb_28_7
                    have r507 : 0 ≤ (m499 a0 8) ∧ (m499 a0 8) ≤ 6 := zi_rd hIm499 hc0 zb_28_8
                    refine zw_b (by omega) ?_
                    have r508 : 0 ≤ (m499 a0 21) ∧ (m499 a0 21) ≤ 64 := zi_rd hIm499 hc0 zb_28_21
                    have e509 : (m499 a0 21) = (mh a0 21) := (Eq.trans (zfr_ap hfm499 hc0 rfl) (Eq.trans (zs_ne hmm497 (Or.inr (by decide))) (Eq.trans (zs_ne hmm410 (Or.inr (by decide))) (Eq.trans (zs_ne hmm407 (Or.inr (by decide))) (Eq.trans (zs_ne hmm403 (Or.inl (zc_ne hc0 zq_211 (by decide)))) (zs_ne hmm397 (Or.inr (by decide))))))))
                    have r510 : 0 ≤ (m499 a0 48) ∧ (m499 a0 48) ≤ 64 := zi_rd hIm499 hc0 zb_28_48
                    have e511 : (m499 a0 48) = (zu_w32 ((mh a0 48) + 1)) := (Eq.trans (zfr_ap hfm499 hc0 rfl) (Eq.trans (zs_ne hmm497 (Or.inr (by decide))) (Eq.trans (zs_ne hmm410 (Or.inr (by decide))) (Eq.trans (zs_ne hmm407 (Or.inr (by decide))) (Eq.trans (zs_ne hmm403 (Or.inl (zc_ne hc0 zq_211 (by decide)))) (zs_eq hmm397))))))
                    have r512 : 0 ≤ (m499 a0 46) ∧ (m499 a0 46) ≤ 96 := zi_rd hIm499 hc0 zb_28_46
                    have e513 : (m499 a0 46) = (mh a0 46) := (Eq.trans (zfr_ap hfm499 hc0 rfl) (Eq.trans (zs_ne hmm497 (Or.inr (by decide))) (Eq.trans (zs_ne hmm410 (Or.inr (by decide))) (Eq.trans (zs_ne hmm407 (Or.inr (by decide))) (Eq.trans (zs_ne hmm403 (Or.inl (zc_ne hc0 zq_211 (by decide)))) (zs_ne hmm397 (Or.inr (by decide))))))))
                    have r514 : 0 ≤ (m499 a0 49) ∧ (m499 a0 49) ≤ 1 := zi_rd hIm499 hc0 zb_28_49
                    have e515 : (m499 a0 49) = 1 := (Eq.trans (zfr_ap hfm499 hc0 rfl) (Eq.trans (zs_ne hmm497 (Or.inr (by decide))) (zs_eq hmm410)))
                    have r516 : 0 ≤ (m499 a0 45) ∧ (m499 a0 45) ≤ 96 := zi_rd hIm499 hc0 zb_28_45
                    have e517 : (m499 a0 45) = (zu_w32 ((m403 a0 45) + 1)) := (Eq.trans (zfr_ap hfm499 hc0 rfl) (Eq.trans (zs_ne hmm497 (Or.inr (by decide))) (Eq.trans (zs_ne hmm410 (Or.inr (by decide))) (zs_eq hmm407))))
                    have r518 : 0 ≤ (m499 a0 47) ∧ (m499 a0 47) ≤ 8 := zi_rd hIm499 hc0 zb_28_47
                    have e519 : (m499 a0 47) = (mh a0 47) := (Eq.trans (zfr_ap hfm499 hc0 rfl) (Eq.trans (zs_ne hmm497 (Or.inr (by decide))) (Eq.trans (zs_ne hmm410 (Or.inr (by decide))) (Eq.trans (zs_ne hmm407 (Or.inr (by decide))) (Eq.trans (zs_ne hmm403 (Or.inl (zc_ne hc0 zq_211 (by decide)))) (zs_ne hmm397 (Or.inr (by decide))))))))
                    have r520 : (-2147483648) ≤ (m499 a0 4) ∧ (m499 a0 4) ≤ 2147483647 := zi_rd hIm499 hc0 zb_28_4
                    have e521 : (m499 a0 4) = (mh a0 4) := (Eq.trans (zfr_ap hfm499 hc0 rfl) (Eq.trans (zs_ne hmm497 (Or.inr (by decide))) (Eq.trans (zs_ne hmm410 (Or.inr (by decide))) (Eq.trans (zs_ne hmm407 (Or.inr (by decide))) (Eq.trans (zs_ne hmm403 (Or.inl (zc_ne hc0 zq_211 (by decide)))) (zs_ne hmm397 (Or.inr (by decide))))))))
                    exact zw_some ⟨hIm499, hFm499, hLm499, hRKNm499, hRNSm499, hRTRm499, hRWDm499, ⟨by decide, by decide⟩, by omega, fun _ => by omega, fun _ => by omega, fun _ => by omega, fun _ => by omega, fun _ => by omega, fun _ => by omega, fun h => absurd h (by decide)⟩
                  · exfalso; omega
              · refine zw_some ?_
                refine zw_ite (fun h522 => ?_) (fun h522 => ?_)
                · refine zw_b (by omega) ?_
                  generalize hmm523 : zu_up m410 a0 50 0 = m523
                  have hIm523 := zi_up hmm523 hIm410 hc0 zb_28_50 (by omega) (by omega)
                  have hFm523 := zfr_up hmm523 hFm410 hc0 rfl
                  have hLm523 := zlot_i hmm523 hLm410 hc0 (by decide)
                  have g524 := zwt_fr (zdis_fr (zfr_up hmm523 (zfr_rf [(28, 51)] _) hc0 rfl) rfl)
                  have hRKNm523 := zR_KN_fr (zdis_fr (zfr_up hmm523 (zfr_rf [(28, 51)] _) hc0 rfl) rfl) hRKNm410
                  have hRNSm523 := zR_NS_fr (zdis_fr (zfr_up hmm523 (zfr_rf [(28, 51)] _) hc0 rfl) rfl) hRNSm410
                  have hRTRm523 := zR_TR_fr (zdis_fr (zfr_up hmm523 (zfr_rf [(28, 51)] _) hc0 rfl) rfl) hRTRm410
                  have hRWDm523 := zR_WD_fr (zdis_fr (zfr_up hmm523 (zfr_rf [(28, 51)] _) hc0 rfl) rfl) hRWDm410
                  have r527 : 0 ≤ (m523 a0 7) ∧ (m523 a0 7) ≤ 700 := zi_rd hIm523 hc0 zb_28_7
                  have e528 : (m523 a0 7) = (mh a0 7) := (Eq.trans (zs_ne hmm523 (Or.inr (by decide))) (Eq.trans (zs_ne hmm410 (Or.inr (by decide))) (Eq.trans (zs_ne hmm407 (Or.inr (by decide))) (Eq.trans (zs_ne hmm403 (Or.inl (zc_ne hc0 zq_211 (by decide)))) (zs_ne hmm397 (Or.inr (by decide)))))))
                  refine zw_bd (zw_mono (zk_89 n hIm523 hc0 hRNSm523 hRWDm523) (fun v526 m525 hqm525 => ?_))
                  obtain ⟨hIm525, hfm525, hvm525⟩ := hqm525
                  have hFm525 := zfr_tr hFm523 hfm525 rfl
                  have hLm525 := zlot_go hLm523 (zlot_f hfm525 rfl)
                  obtain ⟨hRNSm525, hRTRm525, hRWDm525, hvm525⟩ := hvm525
                  have g529 := zwt_fr (zdis_fr hfm525 rfl)
                  have hRKNm525 := zR_KN_fr (zdis_fr hfm525 rfl) hRKNm523
                  have g530 := zwt_bd hIm525 hc0
                  have s531 := hRNSm525 a0 hc0
                  have r532 : 0 ≤ (m525 a0 7) ∧ (m525 a0 7) ≤ 700 := zi_rd hIm525 hc0 zb_28_7
                  have r533 : 0 ≤ (m525 a0 8) ∧ (m525 a0 8) ≤ 6 := zi_rd hIm525 hc0 zb_28_8
                  refine zw_b (by omega) ?_
                  have r534 : 0 ≤ (m525 a0 21) ∧ (m525 a0 21) ≤ 64 := zi_rd hIm525 hc0 zb_28_21
                  have e535 : (m525 a0 21) = (mh a0 21) := (Eq.trans (zfr_ap hfm525 hc0 rfl) (Eq.trans (zs_ne hmm523 (Or.inr (by decide))) (Eq.trans (zs_ne hmm410 (Or.inr (by decide))) (Eq.trans (zs_ne hmm407 (Or.inr (by decide))) (Eq.trans (zs_ne hmm403 (Or.inl (zc_ne hc0 zq_211 (by decide)))) (zs_ne hmm397 (Or.inr (by decide))))))))
                  have r536 : 0 ≤ (m525 a0 48) ∧ (m525 a0 48) ≤ 64 := zi_rd hIm525 hc0 zb_28_48
                  have e537 : (m525 a0 48) = (zu_w32 ((mh a0 48) + 1)) := (Eq.trans (zfr_ap hfm525 hc0 rfl) (Eq.trans (zs_ne hmm523 (Or.inr (by decide))) (Eq.trans (zs_ne hmm410 (Or.inr (by decide))) (Eq.trans (zs_ne hmm407 (Or.inr (by decide))) (Eq.trans (zs_ne hmm403 (Or.inl (zc_ne hc0 zq_211 (by decide)))) (zs_eq hmm397))))))
                  have r538 : 0 ≤ (m525 a0 46) ∧ (m525 a0 46) ≤ 96 := zi_rd hIm525 hc0 zb_28_46
                  have e539 : (m525 a0 46) = (mh a0 46) := (Eq.trans (zfr_ap hfm525 hc0 rfl) (Eq.trans (zs_ne hmm523 (Or.inr (by decide))) (Eq.trans (zs_ne hmm410 (Or.inr (by decide))) (Eq.trans (zs_ne hmm407 (Or.inr (by decide))) (Eq.trans (zs_ne hmm403 (Or.inl (zc_ne hc0 zq_211 (by decide)))) (zs_ne hmm397 (Or.inr (by decide))))))))
                  have r540 : 0 ≤ (m525 a0 49) ∧ (m525 a0 49) ≤ 1 := zi_rd hIm525 hc0 zb_28_49
                  have e541 : (m525 a0 49) = 1 := (Eq.trans (zfr_ap hfm525 hc0 rfl) (Eq.trans (zs_ne hmm523 (Or.inr (by decide))) (zs_eq hmm410)))
                  have r542 : 0 ≤ (m525 a0 45) ∧ (m525 a0 45) ≤ 96 := zi_rd hIm525 hc0 zb_28_45
                  have e543 : (m525 a0 45) = (zu_w32 ((m403 a0 45) + 1)) := (Eq.trans (zfr_ap hfm525 hc0 rfl) (Eq.trans (zs_ne hmm523 (Or.inr (by decide))) (Eq.trans (zs_ne hmm410 (Or.inr (by decide))) (zs_eq hmm407))))
                  have r544 : 0 ≤ (m525 a0 47) ∧ (m525 a0 47) ≤ 8 := zi_rd hIm525 hc0 zb_28_47
                  have e545 : (m525 a0 47) = (mh a0 47) := (Eq.trans (zfr_ap hfm525 hc0 rfl) (Eq.trans (zs_ne hmm523 (Or.inr (by decide))) (Eq.trans (zs_ne hmm410 (Or.inr (by decide))) (Eq.trans (zs_ne hmm407 (Or.inr (by decide))) (Eq.trans (zs_ne hmm403 (Or.inl (zc_ne hc0 zq_211 (by decide)))) (zs_ne hmm397 (Or.inr (by decide))))))))
                  have r546 : (-2147483648) ≤ (m525 a0 4) ∧ (m525 a0 4) ≤ 2147483647 := zi_rd hIm525 hc0 zb_28_4
                  have e547 : (m525 a0 4) = (mh a0 4) := (Eq.trans (zfr_ap hfm525 hc0 rfl) (Eq.trans (zs_ne hmm523 (Or.inr (by decide))) (Eq.trans (zs_ne hmm410 (Or.inr (by decide))) (Eq.trans (zs_ne hmm407 (Or.inr (by decide))) (Eq.trans (zs_ne hmm403 (Or.inl (zc_ne hc0 zq_211 (by decide)))) (zs_ne hmm397 (Or.inr (by decide))))))))
                  exact zw_some ⟨hIm525, hFm525, hLm525, hRKNm525, hRNSm525, hRTRm525, hRWDm525, ⟨by decide, by decide⟩, by omega, fun _ => by omega, fun _ => by omega, fun _ => by omega, fun _ => by omega, fun _ => by omega, fun _ => by omega, fun h => absurd h (by decide)⟩
                · exfalso; omega
            · refine zw_some ?_
              refine zw_ite (fun h548 => ?_) (fun h548 => ?_)
              · refine zw_b (by omega) ?_
                generalize hmm549 : zu_up m410 a0 50 0 = m549
                have hIm549 := zi_up hmm549 hIm410 hc0 zb_28_50 (by omega) (by omega)
                have hFm549 := zfr_up hmm549 hFm410 hc0 rfl
                have hLm549 := zlot_i hmm549 hLm410 hc0 (by decide)
                have g550 := zwt_fr (zdis_fr (zfr_up hmm549 (zfr_rf [(28, 51)] _) hc0 rfl) rfl)
                have hRKNm549 := zR_KN_fr (zdis_fr (zfr_up hmm549 (zfr_rf [(28, 51)] _) hc0 rfl) rfl) hRKNm410
                have hRNSm549 := zR_NS_fr (zdis_fr (zfr_up hmm549 (zfr_rf [(28, 51)] _) hc0 rfl) rfl) hRNSm410
                have hRTRm549 := zR_TR_fr (zdis_fr (zfr_up hmm549 (zfr_rf [(28, 51)] _) hc0 rfl) rfl) hRTRm410
                have hRWDm549 := zR_WD_fr (zdis_fr (zfr_up hmm549 (zfr_rf [(28, 51)] _) hc0 rfl) rfl) hRWDm410
                have r553 : 0 ≤ (m549 a0 7) ∧ (m549 a0 7) ≤ 700 := zi_rd hIm549 hc0 zb_28_7
                have e554 : (m549 a0 7) = (mh a0 7) := (Eq.trans (zs_ne hmm549 (Or.inr (by decide))) (Eq.trans (zs_ne hmm410 (Or.inr (by decide))) (Eq.trans (zs_ne hmm407 (Or.inr (by decide))) (Eq.trans (zs_ne hmm403 (Or.inl (zc_ne hc0 zq_211 (by decide)))) (zs_ne hmm397 (Or.inr (by decide)))))))
                refine zw_bd (zw_mono (zk_89 n hIm549 hc0 hRNSm549 hRWDm549) (fun v552 m551 hqm551 => ?_))
                obtain ⟨hIm551, hfm551, hvm551⟩ := hqm551
                have hFm551 := zfr_tr hFm549 hfm551 rfl
                have hLm551 := zlot_go hLm549 (zlot_f hfm551 rfl)
                obtain ⟨hRNSm551, hRTRm551, hRWDm551, hvm551⟩ := hvm551
                have g555 := zwt_fr (zdis_fr hfm551 rfl)
                have hRKNm551 := zR_KN_fr (zdis_fr hfm551 rfl) hRKNm549
                have g556 := zwt_bd hIm551 hc0
                have s557 := hRNSm551 a0 hc0
                have r558 : 0 ≤ (m551 a0 7) ∧ (m551 a0 7) ≤ 700 := zi_rd hIm551 hc0 zb_28_7
                have r559 : 0 ≤ (m551 a0 8) ∧ (m551 a0 8) ≤ 6 := zi_rd hIm551 hc0 zb_28_8
                refine zw_b (by omega) ?_
                have r560 : 0 ≤ (m551 a0 21) ∧ (m551 a0 21) ≤ 64 := zi_rd hIm551 hc0 zb_28_21
                have e561 : (m551 a0 21) = (mh a0 21) := (Eq.trans (zfr_ap hfm551 hc0 rfl) (Eq.trans (zs_ne hmm549 (Or.inr (by decide))) (Eq.trans (zs_ne hmm410 (Or.inr (by decide))) (Eq.trans (zs_ne hmm407 (Or.inr (by decide))) (Eq.trans (zs_ne hmm403 (Or.inl (zc_ne hc0 zq_211 (by decide)))) (zs_ne hmm397 (Or.inr (by decide))))))))
                have r562 : 0 ≤ (m551 a0 48) ∧ (m551 a0 48) ≤ 64 := zi_rd hIm551 hc0 zb_28_48
                have e563 : (m551 a0 48) = (zu_w32 ((mh a0 48) + 1)) := (Eq.trans (zfr_ap hfm551 hc0 rfl) (Eq.trans (zs_ne hmm549 (Or.inr (by decide))) (Eq.trans (zs_ne hmm410 (Or.inr (by decide))) (Eq.trans (zs_ne hmm407 (Or.inr (by decide))) (Eq.trans (zs_ne hmm403 (Or.inl (zc_ne hc0 zq_211 (by decide)))) (zs_eq hmm397))))))
                have r564 : 0 ≤ (m551 a0 46) ∧ (m551 a0 46) ≤ 96 := zi_rd hIm551 hc0 zb_28_46
                have e565 : (m551 a0 46) = (mh a0 46) := (Eq.trans (zfr_ap hfm551 hc0 rfl) (Eq.trans (zs_ne hmm549 (Or.inr (by decide))) (Eq.trans (zs_ne hmm410 (Or.inr (by decide))) (Eq.trans (zs_ne hmm407 (Or.inr (by decide))) (Eq.trans (zs_ne hmm403 (Or.inl (zc_ne hc0 zq_211 (by decide)))) (zs_ne hmm397 (Or.inr (by decide))))))))
                have r566 : 0 ≤ (m551 a0 49) ∧ (m551 a0 49) ≤ 1 := zi_rd hIm551 hc0 zb_28_49
                have e567 : (m551 a0 49) = 1 := (Eq.trans (zfr_ap hfm551 hc0 rfl) (Eq.trans (zs_ne hmm549 (Or.inr (by decide))) (zs_eq hmm410)))
                have r568 : 0 ≤ (m551 a0 45) ∧ (m551 a0 45) ≤ 96 := zi_rd hIm551 hc0 zb_28_45
                have e569 : (m551 a0 45) = (zu_w32 ((m403 a0 45) + 1)) := (Eq.trans (zfr_ap hfm551 hc0 rfl) (Eq.trans (zs_ne hmm549 (Or.inr (by decide))) (Eq.trans (zs_ne hmm410 (Or.inr (by decide))) (zs_eq hmm407))))
                have r570 : 0 ≤ (m551 a0 47) ∧ (m551 a0 47) ≤ 8 := zi_rd hIm551 hc0 zb_28_47
                have e571 : (m551 a0 47) = (mh a0 47) := (Eq.trans (zfr_ap hfm551 hc0 rfl) (Eq.trans (zs_ne hmm549 (Or.inr (by decide))) (Eq.trans (zs_ne hmm410 (Or.inr (by decide))) (Eq.trans (zs_ne hmm407 (Or.inr (by decide))) (Eq.trans (zs_ne hmm403 (Or.inl (zc_ne hc0 zq_211 (by decide)))) (zs_ne hmm397 (Or.inr (by decide))))))))
                have r572 : (-2147483648) ≤ (m551 a0 4) ∧ (m551 a0 4) ≤ 2147483647 := zi_rd hIm551 hc0 zb_28_4
                have e573 : (m551 a0 4) = (mh a0 4) := (Eq.trans (zfr_ap hfm551 hc0 rfl) (Eq.trans (zs_ne hmm549 (Or.inr (by decide))) (Eq.trans (zs_ne hmm410 (Or.inr (by decide))) (Eq.trans (zs_ne hmm407 (Or.inr (by decide))) (Eq.trans (zs_ne hmm403 (Or.inl (zc_ne hc0 zq_211 (by decide)))) (zs_ne hmm397 (Or.inr (by decide))))))))
                exact zw_some ⟨hIm551, hFm551, hLm551, hRKNm551, hRNSm551, hRTRm551, hRWDm551, ⟨by decide, by decide⟩, by omega, fun _ => by omega, fun _ => by omega, fun _ => by omega, fun _ => by omega, fun _ => by omega, fun _ => by omega, fun h => absurd h (by decide)⟩
              · exfalso; omega
          · refine zw_some ?_
            refine zw_ite (fun h574 => ?_) (fun h574 => ?_)
            · refine zw_b (by omega) ?_
              generalize hmm575 : zu_up m410 a0 50 0 = m575
              have hIm575 := zi_up hmm575 hIm410 hc0 zb_28_50 (by omega) (by omega)
              have hFm575 := zfr_up hmm575 hFm410 hc0 rfl
              have hLm575 := zlot_i hmm575 hLm410 hc0 (by decide)
              have g576 := zwt_fr (zdis_fr (zfr_up hmm575 (zfr_rf [(28, 51)] _) hc0 rfl) rfl)
              have hRKNm575 := zR_KN_fr (zdis_fr (zfr_up hmm575 (zfr_rf [(28, 51)] _) hc0 rfl) rfl) hRKNm410
              have hRNSm575 := zR_NS_fr (zdis_fr (zfr_up hmm575 (zfr_rf [(28, 51)] _) hc0 rfl) rfl) hRNSm410
              have hRTRm575 := zR_TR_fr (zdis_fr (zfr_up hmm575 (zfr_rf [(28, 51)] _) hc0 rfl) rfl) hRTRm410
              have hRWDm575 := zR_WD_fr (zdis_fr (zfr_up hmm575 (zfr_rf [(28, 51)] _) hc0 rfl) rfl) hRWDm410
              have r579 : 0 ≤ (m575 a0 7) ∧ (m575 a0 7) ≤ 700 := zi_rd hIm575 hc0 zb_28_7
              have e580 : (m575 a0 7) = (mh a0 7) := (Eq.trans (zs_ne hmm575 (Or.inr (by decide))) (Eq.trans (zs_ne hmm410 (Or.inr (by decide))) (Eq.trans (zs_ne hmm407 (Or.inr (by decide))) (Eq.trans (zs_ne hmm403 (Or.inl (zc_ne hc0 zq_211 (by decide)))) (zs_ne hmm397 (Or.inr (by decide)))))))
              refine zw_bd (zw_mono (zk_89 n hIm575 hc0 hRNSm575 hRWDm575) (fun v578 m577 hqm577 => ?_))
              obtain ⟨hIm577, hfm577, hvm577⟩ := hqm577
              have hFm577 := zfr_tr hFm575 hfm577 rfl
              have hLm577 := zlot_go hLm575 (zlot_f hfm577 rfl)
              obtain ⟨hRNSm577, hRTRm577, hRWDm577, hvm577⟩ := hvm577
              have g581 := zwt_fr (zdis_fr hfm577 rfl)
              have hRKNm577 := zR_KN_fr (zdis_fr hfm577 rfl) hRKNm575
              have g582 := zwt_bd hIm577 hc0
              have s583 := hRNSm577 a0 hc0
              have r584 : 0 ≤ (m577 a0 7) ∧ (m577 a0 7) ≤ 700 := zi_rd hIm577 hc0 zb_28_7
              have r585 : 0 ≤ (m577 a0 8) ∧ (m577 a0 8) ≤ 6 := zi_rd hIm577 hc0 zb_28_8
              refine zw_b (by omega) ?_
              have r586 : 0 ≤ (m577 a0 21) ∧ (m577 a0 21) ≤ 64 := zi_rd hIm577 hc0 zb_28_21
              have e587 : (m577 a0 21) = (mh a0 21) := (Eq.trans (zfr_ap hfm577 hc0 rfl) (Eq.trans (zs_ne hmm575 (Or.inr (by decide))) (Eq.trans (zs_ne hmm410 (Or.inr (by decide))) (Eq.trans (zs_ne hmm407 (Or.inr (by decide))) (Eq.trans (zs_ne hmm403 (Or.inl (zc_ne hc0 zq_211 (by decide)))) (zs_ne hmm397 (Or.inr (by decide))))))))
              have r588 : 0 ≤ (m577 a0 48) ∧ (m577 a0 48) ≤ 64 := zi_rd hIm577 hc0 zb_28_48
              have e589 : (m577 a0 48) = (zu_w32 ((mh a0 48) + 1)) := (Eq.trans (zfr_ap hfm577 hc0 rfl) (Eq.trans (zs_ne hmm575 (Or.inr (by decide))) (Eq.trans (zs_ne hmm410 (Or.inr (by decide))) (Eq.trans (zs_ne hmm407 (Or.inr (by decide))) (Eq.trans (zs_ne hmm403 (Or.inl (zc_ne hc0 zq_211 (by decide)))) (zs_eq hmm397))))))
              have r590 : 0 ≤ (m577 a0 46) ∧ (m577 a0 46) ≤ 96 := zi_rd hIm577 hc0 zb_28_46
              have e591 : (m577 a0 46) = (mh a0 46) := (Eq.trans (zfr_ap hfm577 hc0 rfl) (Eq.trans (zs_ne hmm575 (Or.inr (by decide))) (Eq.trans (zs_ne hmm410 (Or.inr (by decide))) (Eq.trans (zs_ne hmm407 (Or.inr (by decide))) (Eq.trans (zs_ne hmm403 (Or.inl (zc_ne hc0 zq_211 (by decide)))) (zs_ne hmm397 (Or.inr (by decide))))))))
              have r592 : 0 ≤ (m577 a0 49) ∧ (m577 a0 49) ≤ 1 := zi_rd hIm577 hc0 zb_28_49
              have e593 : (m577 a0 49) = 1 := (Eq.trans (zfr_ap hfm577 hc0 rfl) (Eq.trans (zs_ne hmm575 (Or.inr (by decide))) (zs_eq hmm410)))
              have r594 : 0 ≤ (m577 a0 45) ∧ (m577 a0 45) ≤ 96 := zi_rd hIm577 hc0 zb_28_45
              have e595 : (m577 a0 45) = (zu_w32 ((m403 a0 45) + 1)) := (Eq.trans (zfr_ap hfm577 hc0 rfl) (Eq.trans (zs_ne hmm575 (Or.inr (by decide))) (Eq.trans (zs_ne hmm410 (Or.inr (by decide))) (zs_eq hmm407))))
              have r596 : 0 ≤ (m577 a0 47) ∧ (m577 a0 47) ≤ 8 := zi_rd hIm577 hc0 zb_28_47
              have e597 : (m577 a0 47) = (mh a0 47) := (Eq.trans (zfr_ap hfm577 hc0 rfl) (Eq.trans (zs_ne hmm575 (Or.inr (by decide))) (Eq.trans (zs_ne hmm410 (Or.inr (by decide))) (Eq.trans (zs_ne hmm407 (Or.inr (by decide))) (Eq.trans (zs_ne hmm403 (Or.inl (zc_ne hc0 zq_211 (by decide)))) (zs_ne hmm397 (Or.inr (by decide))))))))
              have r598 : (-2147483648) ≤ (m577 a0 4) ∧ (m577 a0 4) ≤ 2147483647 := zi_rd hIm577 hc0 zb_28_4
              have e599 : (m577 a0 4) = (mh a0 4) := (Eq.trans (zfr_ap hfm577 hc0 rfl) (Eq.trans (zs_ne hmm575 (Or.inr (by decide))) (Eq.trans (zs_ne hmm410 (Or.inr (by decide))) (Eq.trans (zs_ne hmm407 (Or.inr (by decide))) (Eq.trans (zs_ne hmm403 (Or.inl (zc_ne hc0 zq_211 (by decide)))) (zs_ne hmm397 (Or.inr (by decide))))))))
              exact zw_some ⟨hIm577, hFm577, hLm577, hRKNm577, hRNSm577, hRTRm577, hRWDm577, ⟨by decide, by decide⟩, by omega, fun _ => by omega, fun _ => by omega, fun _ => by omega, fun _ => by omega, fun _ => by omega, fun _ => by omega, fun h => absurd h (by decide)⟩
            · exfalso; omega
        · exfalso; omega
      · refine zw_bd (zw_eq (zu_call_at (zt_T n) (zm_85 n) (zdp_85 n) _ _ _ _ _ rfl (zr_85_0 n _ _ a0 2 mh)) ?_)
        generalize hmm600 : zu_up mh a0 4 2 = m600
        have hIm600 := zi_up hmm600 hImh hc0 zb_28_4 (by omega) (by omega)
        have hFm600 := zfr_up hmm600 hFmh hc0 rfl
        have hLm600 := zlot_i hmm600 hLmh hc0 (by decide)
        have g601 := zwt_fr (zdis_fr (zfr_up hmm600 (zfr_rf [(28, 5)] _) hc0 rfl) rfl)
        have hRKNm600 := zR_KN_fr (zdis_fr (zfr_up hmm600 (zfr_rf [(28, 5)] _) hc0 rfl) rfl) hRKNmh
        have hRNSm600 := zR_NS_fr (zdis_fr (zfr_up hmm600 (zfr_rf [(28, 5)] _) hc0 rfl) rfl) hRNSmh
        have hRTRm600 := zR_TR_fr (zdis_fr (zfr_up hmm600 (zfr_rf [(28, 5)] _) hc0 rfl) rfl) hRTRmh
        have hRWDm600 := zR_WD_fr (zdis_fr (zfr_up hmm600 (zfr_rf [(28, 5)] _) hc0 rfl) rfl) hRWDmh
        have hRLRm600 := zLR_wr (zone_190 hc0) hmm600 (by decide)
        have r602 : 0 ≤ (m600 a0 10) ∧ (m600 a0 10) ≤ 700 := zi_rd hIm600 hc0 zb_28_10
        generalize hmm603 : zu_up m600 a0 5 (m600 a0 10) = m603
        have hIm603 := zi_up hmm603 hIm600 hc0 zb_28_5 (by omega) (by omega)
        have hFm603 := zfr_up hmm603 hFm600 hc0 rfl
        have hLm603 := zlot_i hmm603 hLm600 hc0 (by decide)
        have g604 := zwt_fr (zdis_fr (zfr_up hmm603 (zfr_rf [(28, 6)] _) hc0 rfl) rfl)
        have hRKNm603 := zR_KN_fr (zdis_fr (zfr_up hmm603 (zfr_rf [(28, 6)] _) hc0 rfl) rfl) hRKNm600
        have hRLRm603 := zR_LR_fr (zdis_fr (zfr_up hmm603 (zfr_rf [(28, 6)] _) hc0 rfl) rfl) hRLRm600
        have hRNSm603 := zR_NS_fr (zdis_fr (zfr_up hmm603 (zfr_rf [(28, 6)] _) hc0 rfl) rfl) hRNSm600
        have hRTRm603 := zR_TR_fr (zdis_fr (zfr_up hmm603 (zfr_rf [(28, 6)] _) hc0 rfl) rfl) hRTRm600
        have hRWDm603 := zR_WD_fr (zdis_fr (zfr_up hmm603 (zfr_rf [(28, 6)] _) hc0 rfl) rfl) hRWDm600
        refine zw_b (by omega) ?_
        refine zw_some ?_
        refine zw_b (by omega) ?_
        refine zw_some ?_
        refine zw_ite (fun h605 => ?_) (fun h605 => ?_)
        · exfalso; omega
        · refine zw_b (by omega) ?_
          have r606 : 0 ≤ (m603 a0 7) ∧ (m603 a0 7) ≤ 700 := zi_rd hIm603 hc0 zb_28_7
          have e607 : (m603 a0 7) = (mh a0 7) := (Eq.trans (zs_ne hmm603 (Or.inr (by decide))) (zs_ne hmm600 (Or.inr (by decide))))
          have r608 : 0 ≤ (m603 a0 8) ∧ (m603 a0 8) ≤ 6 := zi_rd hIm603 hc0 zb_28_8
          have r609 : 0 ≤ (m603 a0 21) ∧ (m603 a0 21) ≤ 64 := zi_rd hIm603 hc0 zb_28_21
          have e610 : (m603 a0 21) = (mh a0 21) := (Eq.trans (zs_ne hmm603 (Or.inr (by decide))) (zs_ne hmm600 (Or.inr (by decide))))
          have r611 : 0 ≤ (m603 a0 48) ∧ (m603 a0 48) ≤ 64 := zi_rd hIm603 hc0 zb_28_48
          have e612 : (m603 a0 48) = (mh a0 48) := (Eq.trans (zs_ne hmm603 (Or.inr (by decide))) (zs_ne hmm600 (Or.inr (by decide))))
          have r613 : 0 ≤ (m603 a0 46) ∧ (m603 a0 46) ≤ 96 := zi_rd hIm603 hc0 zb_28_46
          have e614 : (m603 a0 46) = (mh a0 46) := (Eq.trans (zs_ne hmm603 (Or.inr (by decide))) (zs_ne hmm600 (Or.inr (by decide))))
          have r615 : 0 ≤ (m603 a0 49) ∧ (m603 a0 49) ≤ 1 := zi_rd hIm603 hc0 zb_28_49
          have e616 : (m603 a0 49) = (mh a0 49) := (Eq.trans (zs_ne hmm603 (Or.inr (by decide))) (zs_ne hmm600 (Or.inr (by decide))))
          have r617 : 0 ≤ (m603 a0 45) ∧ (m603 a0 45) ≤ 96 := zi_rd hIm603 hc0 zb_28_45
          have e618 : (m603 a0 45) = (mh a0 45) := (Eq.trans (zs_ne hmm603 (Or.inr (by decide))) (zs_ne hmm600 (Or.inr (by decide))))
          have r619 : 0 ≤ (m603 a0 47) ∧ (m603 a0 47) ≤ 8 := zi_rd hIm603 hc0 zb_28_47
          have e620 : (m603 a0 47) = (mh a0 47) := (Eq.trans (zs_ne hmm603 (Or.inr (by decide))) (zs_ne hmm600 (Or.inr (by decide))))
          have r621 : (-2147483648) ≤ (m603 a0 4) ∧ (m603 a0 4) ≤ 2147483647 := zi_rd hIm603 hc0 zb_28_4
          have e622 : (m603 a0 4) = 2 := (Eq.trans (zs_ne hmm603 (Or.inr (by decide))) (zs_eq hmm600))
          exact zw_some ⟨hIm603, hFm603, hLm603, hRKNm603, hRNSm603, hRTRm603, hRWDm603, ⟨by decide, by decide⟩, by omega, fun h => absurd h (by decide), fun h => absurd h (by decide), fun h => absurd h (by decide), fun h => absurd h (by decide), fun h => absurd h (by decide), fun h => absurd h (by decide), fun _ => by omega⟩
set_option maxHeartbeats 4000000 in
theorem zl_117k (n : Nat) {a0 : Int} {m0 : zu_m} (hc0 : zcls a0 = 28)  (hxp0 : (m0 a0 21) + znz m0 = (m0 a0 48)) (hxp1 : (m0 a0 45) = znz m0 + (m0 a0 47)) (hxp2 : (m0 a0 46) = zbi m0 + 1) (hxp3 : (m0 a0 49) = 0) (hxp4 : 1 ≤ (m0 a0 21)) : ∀ k : Nat, (∀ (mh : zu_m), zi_I mh → zfr [(28, 5), (28, 6), (28, 8), (28, 9), (28, 10), (28, 11), (28, 22), (28, 46), (28, 47), (28, 48), (28, 49), (28, 50), (28, 51), (117, 0), (118, 0), (119, 0), (120, 0), (121, 0)] m0 mh → zlot m0 mh → (0 ≤ mh a0 49 ∧ mh a0 49 ≤ 0) → ((mh a0 21) + znz mh = (mh a0 48)) → ((mh a0 45) = znz mh + (mh a0 47)) → ((mh a0 46) = zbi mh + 1) → (1 ≤ (mh a0 21)) → ((mh a0 7) = (m0 a0 7)) → ((mh a0 8) = (m0 a0 8)) → ((mh a0 4) = (m0 a0 4)) → (zR_KN mh) → (zR_NS mh) → (zR_TR mh) → (zR_WD mh) → 2 < (k : Int) → zw (zu_ex (zt_T n) 117 47 [(40, a0), (2, 0)] [] mh) (fun v m => zi_I m ∧ zfr [(28, 5), (28, 6), (28, 8), (28, 9), (28, 10), (28, 11), (28, 22), (28, 46), (28, 47), (28, 48), (28, 49), (28, 50), (28, 51), (117, 0), (118, 0), (119, 0), (120, 0), (121, 0)] m0 m ∧ zlot m0 m ∧ zR_KN m ∧ zR_NS m ∧ zR_TR m ∧ zR_WD m ∧ (0 ≤ v ∧ v ≤ 1) ∧ ((m0 a0 7) ≤ (m a0 7)) ∧ (v = 1 → ((m0 a0 8) ≠ 0 ∧ ((m a0 8) = 0 ∨ (m0 a0 7) < (m a0 7)))) ∧ (v = 1 → (m a0 21) + znz m = (m a0 48)) ∧ (v = 1 → (m a0 46) + (m a0 49) = zbi m + 1) ∧ (v = 1 → (m a0 45) = znz m + (m a0 47)) ∧ (v = 1 → ((m a0 49) = 0 → 1 ≤ (m a0 21))) ∧ (v = 1 → (m a0 4) = (m0 a0 4)) ∧ (v = 0 → (m a0 4) ≠ 0))) ∧ (∀ (y0 : Int) (mh : zu_m), zi_I mh → zfr [(28, 5), (28, 6), (28, 8), (28, 9), (28, 10), (28, 11), (28, 22), (28, 46), (28, 47), (28, 48), (28, 49), (28, 50), (28, 51), (117, 0), (118, 0), (119, 0), (120, 0), (121, 0)] m0 mh → zlot m0 mh → (0 ≤ y0 ∧ y0 ≤ 14) → (0 ≤ mh a0 49 ∧ mh a0 49 ≤ 0) → ((mh a0 21) + znz mh = (mh a0 48)) → ((mh a0 45) = znz mh + (mh a0 47)) → ((mh a0 46) = zbi mh + 1) → (1 ≤ (mh a0 21)) → ((mh a0 7) = (m0 a0 7)) → (y0 ≠ 0 → (m0 a0 8) ≠ 0) → (y0 = 0 ∨ 3 ≤ y0) → ((mh a0 4) = (m0 a0 4)) → (zR_KN mh) → (zR_NS mh) → (zR_TR mh) → (zR_WD mh) → 1 < (k : Int) → zw (zu_ex (zt_T n) 117 147 [(40, a0), (2, 0)] [(0, y0)] mh) (fun v m => zi_I m ∧ zfr [(28, 5), (28, 6), (28, 8), (28, 9), (28, 10), (28, 11), (28, 22), (28, 46), (28, 47), (28, 48), (28, 49), (28, 50), (28, 51), (117, 0), (118, 0), (119, 0), (120, 0), (121, 0)] m0 m ∧ zlot m0 m ∧ zR_KN m ∧ zR_NS m ∧ zR_TR m ∧ zR_WD m ∧ (0 ≤ v ∧ v ≤ 1) ∧ ((m0 a0 7) ≤ (m a0 7)) ∧ (v = 1 → ((m0 a0 8) ≠ 0 ∧ ((m a0 8) = 0 ∨ (m0 a0 7) < (m a0 7)))) ∧ (v = 1 → (m a0 21) + znz m = (m a0 48)) ∧ (v = 1 → (m a0 46) + (m a0 49) = zbi m + 1) ∧ (v = 1 → (m a0 45) = znz m + (m a0 47)) ∧ (v = 1 → ((m a0 49) = 0 → 1 ≤ (m a0 21))) ∧ (v = 1 → (m a0 4) = (m0 a0 4)) ∧ (v = 0 → (m a0 4) ≠ 0))) ∧ (∀ (x1 : Int) (mh : zu_m), zi_I mh → zfr [(28, 5), (28, 6), (28, 8), (28, 9), (28, 10), (28, 11), (28, 22), (28, 46), (28, 47), (28, 48), (28, 49), (28, 50), (28, 51), (117, 0), (118, 0), (119, 0), (120, 0), (121, 0)] m0 mh → zlot m0 mh → (1 ≤ x1 ∧ x1 ≤ 14) → (0 ≤ mh a0 49 ∧ mh a0 49 ≤ 0) → ((mh a0 21) + znz mh = (mh a0 48)) → ((mh a0 45) = znz mh + (mh a0 47)) → ((mh a0 46) = zbi mh + 1) → (1 ≤ (mh a0 21)) → ((mh a0 7) = (m0 a0 7)) → ((m0 a0 8) ≠ 0) → (3 ≤ x1) → ((mh a0 4) = (m0 a0 4)) → (zR_KN mh) → (zR_NS mh) → (zR_TR mh) → (zR_WD mh) → 0 < (k : Int) → zw (zu_ex (zt_T n) 117 217 [(40, a0), (0, x1)] [] mh) (fun v m => zi_I m ∧ zfr [(28, 5), (28, 6), (28, 8), (28, 9), (28, 10), (28, 11), (28, 22), (28, 46), (28, 47), (28, 48), (28, 49), (28, 50), (28, 51), (117, 0), (118, 0), (119, 0), (120, 0), (121, 0)] m0 m ∧ zlot m0 m ∧ zR_KN m ∧ zR_NS m ∧ zR_TR m ∧ zR_WD m ∧ (0 ≤ v ∧ v ≤ 1) ∧ ((m0 a0 7) ≤ (m a0 7)) ∧ (v = 1 → ((m0 a0 8) ≠ 0 ∧ ((m a0 8) = 0 ∨ (m0 a0 7) < (m a0 7)))) ∧ (v = 1 → (m a0 21) + znz m = (m a0 48)) ∧ (v = 1 → (m a0 46) + (m a0 49) = zbi m + 1) ∧ (v = 1 → (m a0 45) = znz m + (m a0 47)) ∧ (v = 1 → ((m a0 49) = 0 → 1 ≤ (m a0 21))) ∧ (v = 1 → (m a0 4) = (m0 a0 4)) ∧ (v = 0 → (m a0 4) ≠ 0))) := by
  intro k
  induction k with
  | zero => exact ⟨fun mh hImh hFmh hLmh hg0 hH0 hH1 hH2 hH3 hH4 hH5 hH6 hRKNmh hRNSmh hRTRmh hRWDmh hM => by exfalso; omega, fun y0 mh hImh hFmh hLmh hby0 hg1 hH0 hH1 hH2 hH3 hH4 hH5 hH6 hH7 hRKNmh hRNSmh hRTRmh hRWDmh hM => by exfalso; omega, fun x1 mh hImh hFmh hLmh hbx1 hg1 hH0 hH1 hH2 hH3 hH4 hH5 hH6 hH7 hRKNmh hRNSmh hRTRmh hRWDmh hM => by exfalso; omega⟩
  | succ k ih => exact ⟨zl_117H0k n (m0 := m0) hc0 hxp0 hxp1 hxp2 hxp3 hxp4 k ih, zl_117H1k n (m0 := m0) hc0 hxp0 hxp1 hxp2 hxp3 hxp4 k ih, zl_117H2k n (m0 := m0) hc0 hxp0 hxp1 hxp2 hxp3 hxp4 k ih⟩
set_option maxHeartbeats 4000000 in
theorem zk_117k (n : Nat) {a0 : Int} {m0 : zu_m} (hIm0 : zi_I m0) (hc0 : zcls a0 = 28)   (he0 : 0 ≤ m0 a0 49 ∧ m0 a0 49 ≤ 0) (hxp0 : (m0 a0 21) + znz m0 = (m0 a0 48)) (hxp1 : (m0 a0 45) = znz m0 + (m0 a0 47)) (hxp2 : (m0 a0 46) = zbi m0 + 1) (hxp3 : (m0 a0 49) = 0) (hxp4 : 1 ≤ (m0 a0 21)) (hRKNm0 : zR_KN m0) (hRNSm0 : zR_NS m0) (hRTRm0 : zR_TR m0) (hRWDm0 : zR_WD m0) : zw (zu_call (zt_T n) 117 [(40, a0)] m0) (fun v m => zi_I m ∧ zfr [(28, 5), (28, 6), (28, 8), (28, 9), (28, 10), (28, 11), (28, 22), (28, 46), (28, 47), (28, 48), (28, 49), (28, 50), (28, 51), (117, 0), (118, 0), (119, 0), (120, 0), (121, 0)] m0 m ∧ zlot m0 m ∧ zR_KN m ∧ zR_NS m ∧ zR_TR m ∧ zR_WD m ∧ (0 ≤ v ∧ v ≤ 1) ∧ ((m0 a0 7) ≤ (m a0 7)) ∧ (v = 1 → ((m0 a0 8) ≠ 0 ∧ ((m a0 8) = 0 ∨ (m0 a0 7) < (m a0 7)))) ∧ (v = 1 → (m a0 21) + znz m = (m a0 48)) ∧ (v = 1 → (m a0 46) + (m a0 49) = zbi m + 1) ∧ (v = 1 → (m a0 45) = znz m + (m a0 47)) ∧ (v = 1 → ((m a0 49) = 0 → 1 ≤ (m a0 21))) ∧ (v = 1 → (m a0 4) = (m0 a0 4)) ∧ (v = 0 → (m a0 4) ≠ 0)) := by
  have hFm0 : zfr [(28, 5), (28, 6), (28, 8), (28, 9), (28, 10), (28, 11), (28, 22), (28, 46), (28, 47), (28, 48), (28, 49), (28, 50), (28, 51), (117, 0), (118, 0), (119, 0), (120, 0), (121, 0)] m0 m0 := zfr_rf _ _
  have hLm0 : zlot m0 m0 := zlot_rf m0
  have r623 : 0 ≤ (m0 a0 7) ∧ (m0 a0 7) ≤ 700 := zi_rd hIm0 hc0 zb_28_7
  have r624 : 0 ≤ (m0 a0 8) ∧ (m0 a0 8) ≤ 6 := zi_rd hIm0 hc0 zb_28_8
  have r625 : (-2147483648) ≤ (m0 a0 4) ∧ (m0 a0 4) ≤ 2147483647 := zi_rd hIm0 hc0 zb_28_4
  have r626 : 0 ≤ (m0 a0 21) ∧ (m0 a0 21) ≤ 64 := zi_rd hIm0 hc0 zb_28_21
  have r627 : 0 ≤ (m0 a0 48) ∧ (m0 a0 48) ≤ 64 := zi_rd hIm0 hc0 zb_28_48
  have r628 : 0 ≤ (m0 a0 45) ∧ (m0 a0 45) ≤ 96 := zi_rd hIm0 hc0 zb_28_45
  have r629 : 0 ≤ (m0 a0 47) ∧ (m0 a0 47) ≤ 8 := zi_rd hIm0 hc0 zb_28_47
  have r630 : 0 ≤ (m0 a0 46) ∧ (m0 a0 46) ≤ 96 := zi_rd hIm0 hc0 zb_28_46
  have g631 := zwt_bd hIm0 hc0
  have s632 := hRNSm0 a0 hc0
  refine zw_eq (zu_call_at (zt_T n) (zm_117 n) (zdp_117 n) _ _ _ _ _ rfl (zr_117_0 n _ _ a0 m0)) ?_
  refine zw_bd (zw_eq (zu_call_at (zt_T n) (zm_93 n) (zdp_93 n) _ _ _ _ _ rfl (zr_93_0 n _ _ a0 41 m0)) ?_)
  refine zw_ite (fun h633 => ?_) (fun h633 => ?_)
  · refine zw_b (by omega) ?_
    refine zw_some ?_
    refine zw_ite (fun h634 => ?_) (fun h634 => ?_)
    · have hM : 2 < ((3 : Nat) : Int) := by omega
      exact (zl_117k n (m0 := m0) hc0 hxp0 hxp1 hxp2 hxp3 hxp4 3).1  m0 hIm0 hFm0 hLm0 ⟨by omega, by omega⟩ (by omega) (by omega) (by omega) (by omega) (by omega) (by omega) (by omega) hRKNm0 hRNSm0 hRTRm0 hRWDm0 hM
    · exfalso; omega
  · have r635 : (-2147483648) ≤ (m0 a0 9) ∧ (m0 a0 9) ≤ 2147483647 := zi_rd hIm0 hc0 zb_28_9
    refine zw_ite (fun h636 => ?_) (fun h636 => ?_)
    · refine zw_b (by omega) ?_
      refine zw_some ?_
      refine zw_ite (fun h637 => ?_) (fun h637 => ?_)
      · have hM : 2 < ((3 : Nat) : Int) := by omega
        exact (zl_117k n (m0 := m0) hc0 hxp0 hxp1 hxp2 hxp3 hxp4 3).1  m0 hIm0 hFm0 hLm0 ⟨by omega, by omega⟩ (by omega) (by omega) (by omega) (by omega) (by omega) (by omega) (by omega) hRKNm0 hRNSm0 hRTRm0 hRWDm0 hM
      · exfalso; omega
    · refine zw_b (by omega) ?_
      refine zw_some ?_
      refine zw_ite (fun h638 => ?_) (fun h638 => ?_)
      · exfalso; omega
      · refine zw_ite (fun h639 => ?_) (fun h639 => ?_)
        · have hM : 2 < ((3 : Nat) : Int) := by omega
          exact (zl_117k n (m0 := m0) hc0 hxp0 hxp1 hxp2 hxp3 hxp4 3).1  m0 hIm0 hFm0 hLm0 ⟨by omega, by omega⟩ (by omega) (by omega) (by omega) (by omega) (by omega) (by omega) (by omega) hRKNm0 hRNSm0 hRTRm0 hRWDm0 hM
        · refine zw_bd (zw_mono (zk_112k n hIm0 hc0 ⟨by decide, by decide⟩ (by omega) (by omega) (by omega) hRKNm0) (fun v641 m640 hqm640 => ?_))
          obtain ⟨hIm640, hfm640, hlm640, hvm640⟩ := hqm640
          have hFm640 := zfr_tr hFm0 hfm640 rfl
          have hLm640 := zlot_go hLm0 hlm640
          obtain ⟨hRKNm640, hvm640⟩ := hvm640
          have hRNSm640 := zR_NS_fr (zdis_fr hfm640 rfl) hRNSm0
          have hRTRm640 := zR_TR_fr (zdis_fr hfm640 rfl) hRTRm0
          have hRWDm640 := zR_WD_fr (zdis_fr hfm640 rfl) hRWDm0
          have g642 := zwt_bd hIm640 hc0
          have s643 := hRNSm640 a0 hc0
          have r644 : 0 ≤ (m640 a0 21) ∧ (m640 a0 21) ≤ 64 := zi_rd hIm640 hc0 zb_28_21
          have r645 : 0 ≤ (m640 a0 46) ∧ (m640 a0 46) ≤ 96 := zi_rd hIm640 hc0 zb_28_46
          have r646 : 0 ≤ (m640 a0 45) ∧ (m640 a0 45) ≤ 96 := zi_rd hIm640 hc0 zb_28_45
          have w647 := zu_w32_id (z := (m640 a0 45) - 1) (by omega) (by omega)
          generalize hmm648 : zu_up m640 a0 45 (zu_w32 ((m640 a0 45) - 1)) = m648
          have hIm648 := zi_up hmm648 hIm640 hc0 zb_28_45 (by omega) (by omega)
          have hFm648 := zfr_up hmm648 hFm640 hc0 rfl
          have hLm648 := zlot_i hmm648 hLm640 hc0 (by decide)
          have hRKNm648 := zR_KN_fr (zdis_fr (zfr_up hmm648 (zfr_rf [(28, 46)] _) hc0 rfl) rfl) hRKNm640
          have hRNSm648 := zR_NS_fr (zdis_fr (zfr_up hmm648 (zfr_rf [(28, 46)] _) hc0 rfl) rfl) hRNSm640
          have hRTRm648 := zR_TR_fr (zdis_fr (zfr_up hmm648 (zfr_rf [(28, 46)] _) hc0 rfl) rfl) hRTRm640
          have hRWDm648 := zR_WD_fr (zdis_fr (zfr_up hmm648 (zfr_rf [(28, 46)] _) hc0 rfl) rfl) hRWDm640
          have g649 := zwt_pop hmm648 hc0 (by omega) (by omega)
          have g650 := zwt_bd hIm648 hc0
          have r651 : 0 ≤ (m648 a0 47) ∧ (m648 a0 47) ≤ 8 := zi_rd hIm648 hc0 zb_28_47
          have e652 : (m648 a0 47) = (m0 a0 47) := (Eq.trans (zs_ne hmm648 (Or.inr (by decide))) (zfr_ap hfm640 hc0 rfl))
          have w653 := zu_w32_id (z := (m648 a0 47) - 1) (by omega) (by omega)
          generalize hmm654 : zu_up m648 a0 47 (zu_w32 ((m648 a0 47) - 1)) = m654
          have hIm654 := zi_up hmm654 hIm648 hc0 zb_28_47 (by omega) (by omega)
          have hFm654 := zfr_up hmm654 hFm648 hc0 rfl
          have hLm654 := zlot_i hmm654 hLm648 hc0 (by decide)
          have g655 := zwt_fr (zdis_fr (zfr_up hmm654 (zfr_rf [(28, 48)] _) hc0 rfl) rfl)
          have hRKNm654 := zR_KN_fr (zdis_fr (zfr_up hmm654 (zfr_rf [(28, 48)] _) hc0 rfl) rfl) hRKNm648
          have hRNSm654 := zR_NS_fr (zdis_fr (zfr_up hmm654 (zfr_rf [(28, 48)] _) hc0 rfl) rfl) hRNSm648
          have hRTRm654 := zR_TR_fr (zdis_fr (zfr_up hmm654 (zfr_rf [(28, 48)] _) hc0 rfl) rfl) hRTRm648
          have hRWDm654 := zR_WD_fr (zdis_fr (zfr_up hmm654 (zfr_rf [(28, 48)] _) hc0 rfl) rfl) hRWDm648
          have r658 : 0 ≤ (m654 a0 7) ∧ (m654 a0 7) ≤ 700 := zi_rd hIm654 hc0 zb_28_7
          have e659 : (m654 a0 7) = (m0 a0 7) := (Eq.trans (zs_ne hmm654 (Or.inr (by decide))) (Eq.trans (zs_ne hmm648 (Or.inr (by decide))) (zfr_ap hfm640 hc0 rfl)))
          refine zw_bd (zw_mono (zk_89 n hIm654 hc0 hRNSm654 hRWDm654) (fun v657 m656 hqm656 => ?_))
          obtain ⟨hIm656, hfm656, hvm656⟩ := hqm656
          have hFm656 := zfr_tr hFm654 hfm656 rfl
          have hLm656 := zlot_go hLm654 (zlot_f hfm656 rfl)
          obtain ⟨hRNSm656, hRTRm656, hRWDm656, hvm656⟩ := hvm656
          have g660 := zwt_fr (zdis_fr hfm656 rfl)
          have hRKNm656 := zR_KN_fr (zdis_fr hfm656 rfl) hRKNm654
          have g661 := zwt_bd hIm656 hc0
          have s662 := hRNSm656 a0 hc0
          have r663 : 0 ≤ (m656 a0 7) ∧ (m656 a0 7) ≤ 700 := zi_rd hIm656 hc0 zb_28_7
          have r664 : 0 ≤ (m656 a0 8) ∧ (m656 a0 8) ≤ 6 := zi_rd hIm656 hc0 zb_28_8
          refine zw_b (by omega) ?_
          have r665 : 0 ≤ (m656 a0 21) ∧ (m656 a0 21) ≤ 64 := zi_rd hIm656 hc0 zb_28_21
          have e666 : (m656 a0 21) = (m640 a0 21) := (Eq.trans (zfr_ap hfm656 hc0 rfl) (Eq.trans (zs_ne hmm654 (Or.inr (by decide))) (zs_ne hmm648 (Or.inr (by decide)))))
          have r667 : 0 ≤ (m656 a0 48) ∧ (m656 a0 48) ≤ 64 := zi_rd hIm656 hc0 zb_28_48
          have e668 : (m656 a0 48) = (m0 a0 48) := (Eq.trans (zfr_ap hfm656 hc0 rfl) (Eq.trans (zs_ne hmm654 (Or.inr (by decide))) (Eq.trans (zs_ne hmm648 (Or.inr (by decide))) (zfr_ap hfm640 hc0 rfl))))
          have r669 : 0 ≤ (m656 a0 46) ∧ (m656 a0 46) ≤ 96 := zi_rd hIm656 hc0 zb_28_46
          have e670 : (m656 a0 46) = (m640 a0 46) := (Eq.trans (zfr_ap hfm656 hc0 rfl) (Eq.trans (zs_ne hmm654 (Or.inr (by decide))) (zs_ne hmm648 (Or.inr (by decide)))))
          have r671 : 0 ≤ (m656 a0 49) ∧ (m656 a0 49) ≤ 1 := zi_rd hIm656 hc0 zb_28_49
          have e672 : (m656 a0 49) = (m0 a0 49) := (Eq.trans (zfr_ap hfm656 hc0 rfl) (Eq.trans (zs_ne hmm654 (Or.inr (by decide))) (Eq.trans (zs_ne hmm648 (Or.inr (by decide))) (zfr_ap hfm640 hc0 rfl))))
          have r673 : 0 ≤ (m656 a0 45) ∧ (m656 a0 45) ≤ 96 := zi_rd hIm656 hc0 zb_28_45
          have e674 : (m656 a0 45) = (zu_w32 ((m640 a0 45) - 1)) := (Eq.trans (zfr_ap hfm656 hc0 rfl) (Eq.trans (zs_ne hmm654 (Or.inr (by decide))) (zs_eq hmm648)))
          have r675 : 0 ≤ (m656 a0 47) ∧ (m656 a0 47) ≤ 8 := zi_rd hIm656 hc0 zb_28_47
          have e676 : (m656 a0 47) = (zu_w32 ((m648 a0 47) - 1)) := (Eq.trans (zfr_ap hfm656 hc0 rfl) (zs_eq hmm654))
          have r677 : (-2147483648) ≤ (m656 a0 4) ∧ (m656 a0 4) ≤ 2147483647 := zi_rd hIm656 hc0 zb_28_4
          have e678 : (m656 a0 4) = (m0 a0 4) := (Eq.trans (zfr_ap hfm656 hc0 rfl) (Eq.trans (zs_ne hmm654 (Or.inr (by decide))) (Eq.trans (zs_ne hmm648 (Or.inr (by decide))) (zfr_ap hfm640 hc0 rfl))))
          exact zw_some ⟨hIm656, hFm656, hLm656, hRKNm656, hRNSm656, hRTRm656, hRWDm656, ⟨by decide, by decide⟩, by omega, fun _ => by omega, fun _ => by omega, fun _ => by omega, fun _ => by omega, fun _ => by omega, fun _ => by omega, fun h => absurd h (by decide)⟩
set_option maxHeartbeats 4000000 in
theorem zl_118k (n : Nat) {a0 : Int} {m0 : zu_m} (hc0 : zcls a0 = 28)  (hxp0 : (m0 a0 21) = (m0 a0 48)) : ∀ k : Nat, (∀ (mh : zu_m), zi_I mh → zfr [(28, 5), (28, 6), (28, 8), (28, 9), (28, 10), (28, 11), (28, 22), (28, 46), (28, 47), (28, 48), (28, 49), (28, 50), (28, 51), (117, 0), (118, 0), (119, 0), (120, 0), (121, 0)] m0 mh → zlot m0 mh → ((m0 a0 7) ≤ (mh a0 7)) → ((mh a0 21) + znz mh = (mh a0 48)) → ((mh a0 46) + (mh a0 49) = zbi mh + 1) → ((mh a0 45) = znz mh + (mh a0 47)) → ((mh a0 49) = 0 → 1 ≤ (mh a0 21)) → ((mh a0 4) = (m0 a0 4)) → (zR_KN mh) → (zR_NS mh) → (zR_TR mh) → (zR_WD mh) → (7 * (700 - (mh a0 7)) + (mh a0 8)) * 1 + 0 < (k : Int) → zw (zu_ex (zt_T n) 118 25 [(40, a0)] [] mh) (fun v m => zi_I m ∧ zfr [(28, 5), (28, 6), (28, 8), (28, 9), (28, 10), (28, 11), (28, 22), (28, 46), (28, 47), (28, 48), (28, 49), (28, 50), (28, 51), (117, 0), (118, 0), (119, 0), (120, 0), (121, 0)] m0 m ∧ zlot m0 m ∧ zR_KN m ∧ zR_NS m ∧ zR_TR m ∧ zR_WD m ∧ (0 ≤ v ∧ v ≤ 1) ∧ ((m0 a0 7) ≤ (m a0 7)) ∧ (v = 1 → ((m a0 21) = (m a0 48) ∧ 1 ≤ (m a0 21))) ∧ (v = 1 → (m a0 4) = (m0 a0 4)) ∧ (v = 0 → (m a0 4) ≠ 0))) := by
  intro k
  induction k with
  | zero => exact fun mh hImh hFmh hLmh hH0 hH1 hH2 hH3 hH4 hH5 hRKNmh hRNSmh hRTRmh hRWDmh hM => by have zq0 := zi_rd hImh hc0 zb_28_7; have zq1 := zi_rd hImh hc0 zb_28_8; exfalso; omega
  | succ k ih =>
    intro mh hImh hFmh hLmh hH0 hH1 hH2 hH3 hH4 hH5 hRKNmh hRNSmh hRTRmh hRWDmh hM
    refine zw_eq (zu_rega_at (zt_T n) (zm_118 n) (zdp_118 n) _ _ _ _ _ _ (zr_118_25 n _ _ a0 mh)) ?_
    have r1 : 0 ≤ (mh a0 7) ∧ (mh a0 7) ≤ 700 := zi_rd hImh hc0 zb_28_7
    have r2 : 0 ≤ (mh a0 21) ∧ (mh a0 21) ≤ 64 := zi_rd hImh hc0 zb_28_21
    have r3 : 0 ≤ (mh a0 48) ∧ (mh a0 48) ≤ 64 := zi_rd hImh hc0 zb_28_48
    have r4 : 0 ≤ (mh a0 46) ∧ (mh a0 46) ≤ 96 := zi_rd hImh hc0 zb_28_46
    have r5 : 0 ≤ (mh a0 49) ∧ (mh a0 49) ≤ 1 := zi_rd hImh hc0 zb_28_49
    have r6 : 0 ≤ (mh a0 45) ∧ (mh a0 45) ≤ 96 := zi_rd hImh hc0 zb_28_45
    have r7 : 0 ≤ (mh a0 47) ∧ (mh a0 47) ≤ 8 := zi_rd hImh hc0 zb_28_47
    have r8 : (-2147483648) ≤ (mh a0 4) ∧ (mh a0 4) ≤ 2147483647 := zi_rd hImh hc0 zb_28_4
    have r9 : 0 ≤ (mh a0 8) ∧ (mh a0 8) ≤ 6 := zi_rd hImh hc0 zb_28_8
    have g10 := zwt_bd hImh hc0
    have s11 := hRNSmh a0 hc0
    refine zw_bd (zw_eq (zu_call_at (zt_T n) (zm_93 n) (zdp_93 n) _ _ _ _ _ rfl (zr_93_0 n _ _ a0 59 mh)) ?_)
    refine zw_ite (fun h12 => ?_) (fun h12 => ?_)
    · refine zw_b (by omega) ?_
      refine zw_some ?_
      refine zw_ite (fun h13 => ?_) (fun h13 => ?_)
      · refine zw_ite (fun h14 => ?_) (fun h14 => ?_)
        · refine zw_bd (zw_mono (zk_117k n hImh hc0 ⟨by omega, by omega⟩ (by omega) (by omega) (by omega) (by omega) (by omega) hRKNmh hRNSmh hRTRmh hRWDmh) (fun v16 m15 hqm15 => ?_))
          obtain ⟨hIm15, hfm15, hlm15, hvm15⟩ := hqm15
          have hFm15 := zfr_tr hFmh hfm15 rfl
          have hLm15 := zlot_go hLmh hlm15
          obtain ⟨hRKNm15, hRNSm15, hRTRm15, hRWDm15, hvm15⟩ := hvm15
          have g17 := zwt_bd hIm15 hc0
          have s18 := hRNSm15 a0 hc0
          have r19 : 0 ≤ (m15 a0 7) ∧ (m15 a0 7) ≤ 700 := zi_rd hIm15 hc0 zb_28_7
          have r20 : 0 ≤ (m15 a0 8) ∧ (m15 a0 8) ≤ 6 := zi_rd hIm15 hc0 zb_28_8
          have r21 : 0 ≤ (m15 a0 21) ∧ (m15 a0 21) ≤ 64 := zi_rd hIm15 hc0 zb_28_21
          have r22 : 0 ≤ (m15 a0 48) ∧ (m15 a0 48) ≤ 64 := zi_rd hIm15 hc0 zb_28_48
          have r23 : 0 ≤ (m15 a0 46) ∧ (m15 a0 46) ≤ 96 := zi_rd hIm15 hc0 zb_28_46
          have r24 : 0 ≤ (m15 a0 49) ∧ (m15 a0 49) ≤ 1 := zi_rd hIm15 hc0 zb_28_49
          have r25 : 0 ≤ (m15 a0 45) ∧ (m15 a0 45) ≤ 96 := zi_rd hIm15 hc0 zb_28_45
          have r26 : 0 ≤ (m15 a0 47) ∧ (m15 a0 47) ≤ 8 := zi_rd hIm15 hc0 zb_28_47
          have r27 : (-2147483648) ≤ (m15 a0 4) ∧ (m15 a0 4) ≤ 2147483647 := zi_rd hIm15 hc0 zb_28_4
          have y28 := (hvm15.1)
          have y29 := (hvm15.2.1)
          have y30 := zhid_mk (hvm15.2.2.1)
          have y31 := zhid_mk (hvm15.2.2.2.1)
          have y32 := zhid_mk (hvm15.2.2.2.2.1)
          have y33 := zhid_mk (hvm15.2.2.2.2.2.1)
          have y34 := zhid_mk (hvm15.2.2.2.2.2.2.1)
          have y35 := zhid_mk (hvm15.2.2.2.2.2.2.2.1)
          have y36 := zhid_mk (hvm15.2.2.2.2.2.2.2.2)
          clear hvm15
          refine zw_ite (fun h37 => ?_) (fun h37 => ?_)
          · have s38 := (zhid_of y30) (by omega)
            have s39 := (zhid_of y31) (by omega)
            have s40 := (zhid_of y32) (by omega)
            have s41 := (zhid_of y33) (by omega)
            have s42 := (zhid_of y34) (by omega)
            have s43 := (zhid_of y35) (by omega)
            have hM : (7 * (700 - (m15 a0 7)) + (m15 a0 8)) * 1 + 0 < (k : Int) := by omega
            exact ih  m15 hIm15 hFm15 hLm15 (by omega) (by omega) (by omega) (by omega) (by omega) (by omega) hRKNm15 hRNSm15 hRTRm15 hRWDm15 hM
          · have s44 := (zhid_of y36) (by omega)
            refine zw_b (by omega) ?_
            exact zw_some ⟨hIm15, hFm15, hLm15, hRKNm15, hRNSm15, hRTRm15, hRWDm15, ⟨by decide, by decide⟩, by omega, fun h => absurd h (by decide), fun h => absurd h (by decide), fun _ => by omega⟩
        · refine zw_bd (zw_mono (zk_116k n hImh hc0 ⟨by omega, by omega⟩ (by omega) (by omega) (by omega) (by omega) hRKNmh hRNSmh hRTRmh hRWDmh) (fun v46 m45 hqm45 => ?_))
          obtain ⟨hIm45, hfm45, hlm45, hvm45⟩ := hqm45
          have hFm45 := zfr_tr hFmh hfm45 rfl
          have hLm45 := zlot_go hLmh hlm45
          obtain ⟨hRKNm45, hRNSm45, hRTRm45, hRWDm45, hvm45⟩ := hvm45
          have g47 := zwt_bd hIm45 hc0
          have s48 := hRNSm45 a0 hc0
          have r49 : 0 ≤ (m45 a0 7) ∧ (m45 a0 7) ≤ 700 := zi_rd hIm45 hc0 zb_28_7
          have r50 : 0 ≤ (m45 a0 8) ∧ (m45 a0 8) ≤ 6 := zi_rd hIm45 hc0 zb_28_8
          have r51 : 0 ≤ (m45 a0 21) ∧ (m45 a0 21) ≤ 64 := zi_rd hIm45 hc0 zb_28_21
          have r52 : 0 ≤ (m45 a0 48) ∧ (m45 a0 48) ≤ 64 := zi_rd hIm45 hc0 zb_28_48
          have r53 : 0 ≤ (m45 a0 46) ∧ (m45 a0 46) ≤ 96 := zi_rd hIm45 hc0 zb_28_46
          have r54 : 0 ≤ (m45 a0 49) ∧ (m45 a0 49) ≤ 1 := zi_rd hIm45 hc0 zb_28_49
          have r55 : 0 ≤ (m45 a0 45) ∧ (m45 a0 45) ≤ 96 := zi_rd hIm45 hc0 zb_28_45
          have r56 : 0 ≤ (m45 a0 47) ∧ (m45 a0 47) ≤ 8 := zi_rd hIm45 hc0 zb_28_47
          have r57 : (-2147483648) ≤ (m45 a0 4) ∧ (m45 a0 4) ≤ 2147483647 := zi_rd hIm45 hc0 zb_28_4
          have y58 := (hvm45.1)
          have y59 := (hvm45.2.1)
          have y60 := zhid_mk (hvm45.2.2.1)
          have y61 := zhid_mk (hvm45.2.2.2.1)
          have y62 := zhid_mk (hvm45.2.2.2.2.1)
          have y63 := zhid_mk (hvm45.2.2.2.2.2.1)
          have y64 := zhid_mk (hvm45.2.2.2.2.2.2.1)
          have y65 := zhid_mk (hvm45.2.2.2.2.2.2.2.1)
          have y66 := zhid_mk (hvm45.2.2.2.2.2.2.2.2)
          clear hvm45
          refine zw_ite (fun h67 => ?_) (fun h67 => ?_)
          · have s68 := (zhid_of y66) (by omega)
            refine zw_b (by omega) ?_
            exact zw_some ⟨hIm45, hFm45, hLm45, hRKNm45, hRNSm45, hRTRm45, hRWDm45, ⟨by decide, by decide⟩, by omega, fun h => absurd h (by decide), fun h => absurd h (by decide), fun _ => by omega⟩
          · have s69 := (zhid_of y60) (by omega)
            have s70 := (zhid_of y61) (by omega)
            have s71 := (zhid_of y62) (by omega)
            have s72 := (zhid_of y63) (by omega)
            have s73 := (zhid_of y64) (by omega)
            have s74 := (zhid_of y65) (by omega)
            have hM : (7 * (700 - (m45 a0 7)) + (m45 a0 8)) * 1 + 0 < (k : Int) := by omega
            exact ih  m45 hIm45 hFm45 hLm45 (by omega) (by omega) (by omega) (by omega) (by omega) (by omega) hRKNm45 hRNSm45 hRTRm45 hRWDm45 hM
      · exfalso; omega
    · have r75 : (-2147483648) ≤ (mh a0 9) ∧ (mh a0 9) ≤ 2147483647 := zi_rd hImh hc0 zb_28_9
      refine zw_ite (fun h76 => ?_) (fun h76 => ?_)
      · refine zw_b (by omega) ?_
        refine zw_some ?_
        refine zw_ite (fun h77 => ?_) (fun h77 => ?_)
        · refine zw_ite (fun h78 => ?_) (fun h78 => ?_)
          · refine zw_bd (zw_mono (zk_117k n hImh hc0 ⟨by omega, by omega⟩ (by omega) (by omega) (by omega) (by omega) (by omega) hRKNmh hRNSmh hRTRmh hRWDmh) (fun v80 m79 hqm79 => ?_))
            obtain ⟨hIm79, hfm79, hlm79, hvm79⟩ := hqm79
            have hFm79 := zfr_tr hFmh hfm79 rfl
            have hLm79 := zlot_go hLmh hlm79
            obtain ⟨hRKNm79, hRNSm79, hRTRm79, hRWDm79, hvm79⟩ := hvm79
            have g81 := zwt_bd hIm79 hc0
            have s82 := hRNSm79 a0 hc0
            have r83 : 0 ≤ (m79 a0 7) ∧ (m79 a0 7) ≤ 700 := zi_rd hIm79 hc0 zb_28_7
            have r84 : 0 ≤ (m79 a0 8) ∧ (m79 a0 8) ≤ 6 := zi_rd hIm79 hc0 zb_28_8
            have r85 : 0 ≤ (m79 a0 21) ∧ (m79 a0 21) ≤ 64 := zi_rd hIm79 hc0 zb_28_21
            have r86 : 0 ≤ (m79 a0 48) ∧ (m79 a0 48) ≤ 64 := zi_rd hIm79 hc0 zb_28_48
            have r87 : 0 ≤ (m79 a0 46) ∧ (m79 a0 46) ≤ 96 := zi_rd hIm79 hc0 zb_28_46
            have r88 : 0 ≤ (m79 a0 49) ∧ (m79 a0 49) ≤ 1 := zi_rd hIm79 hc0 zb_28_49
            have r89 : 0 ≤ (m79 a0 45) ∧ (m79 a0 45) ≤ 96 := zi_rd hIm79 hc0 zb_28_45
            have r90 : 0 ≤ (m79 a0 47) ∧ (m79 a0 47) ≤ 8 := zi_rd hIm79 hc0 zb_28_47
            have r91 : (-2147483648) ≤ (m79 a0 4) ∧ (m79 a0 4) ≤ 2147483647 := zi_rd hIm79 hc0 zb_28_4
            have y92 := (hvm79.1)
            have y93 := (hvm79.2.1)
            have y94 := zhid_mk (hvm79.2.2.1)
            have y95 := zhid_mk (hvm79.2.2.2.1)
            have y96 := zhid_mk (hvm79.2.2.2.2.1)
            have y97 := zhid_mk (hvm79.2.2.2.2.2.1)
            have y98 := zhid_mk (hvm79.2.2.2.2.2.2.1)
            have y99 := zhid_mk (hvm79.2.2.2.2.2.2.2.1)
            have y100 := zhid_mk (hvm79.2.2.2.2.2.2.2.2)
            clear hvm79
            refine zw_ite (fun h101 => ?_) (fun h101 => ?_)
            · have s102 := (zhid_of y94) (by omega)
              have s103 := (zhid_of y95) (by omega)
              have s104 := (zhid_of y96) (by omega)
              have s105 := (zhid_of y97) (by omega)
              have s106 := (zhid_of y98) (by omega)
              have s107 := (zhid_of y99) (by omega)
              have hM : (7 * (700 - (m79 a0 7)) + (m79 a0 8)) * 1 + 0 < (k : Int) := by omega
              exact ih  m79 hIm79 hFm79 hLm79 (by omega) (by omega) (by omega) (by omega) (by omega) (by omega) hRKNm79 hRNSm79 hRTRm79 hRWDm79 hM
            · have s108 := (zhid_of y100) (by omega)
              refine zw_b (by omega) ?_
              exact zw_some ⟨hIm79, hFm79, hLm79, hRKNm79, hRNSm79, hRTRm79, hRWDm79, ⟨by decide, by decide⟩, by omega, fun h => absurd h (by decide), fun h => absurd h (by decide), fun _ => by omega⟩
          · refine zw_bd (zw_mono (zk_116k n hImh hc0 ⟨by omega, by omega⟩ (by omega) (by omega) (by omega) (by omega) hRKNmh hRNSmh hRTRmh hRWDmh) (fun v110 m109 hqm109 => ?_))
            obtain ⟨hIm109, hfm109, hlm109, hvm109⟩ := hqm109
            have hFm109 := zfr_tr hFmh hfm109 rfl
            have hLm109 := zlot_go hLmh hlm109
            obtain ⟨hRKNm109, hRNSm109, hRTRm109, hRWDm109, hvm109⟩ := hvm109
            have g111 := zwt_bd hIm109 hc0
            have s112 := hRNSm109 a0 hc0
            have r113 : 0 ≤ (m109 a0 7) ∧ (m109 a0 7) ≤ 700 := zi_rd hIm109 hc0 zb_28_7
            have r114 : 0 ≤ (m109 a0 8) ∧ (m109 a0 8) ≤ 6 := zi_rd hIm109 hc0 zb_28_8
            have r115 : 0 ≤ (m109 a0 21) ∧ (m109 a0 21) ≤ 64 := zi_rd hIm109 hc0 zb_28_21
            have r116 : 0 ≤ (m109 a0 48) ∧ (m109 a0 48) ≤ 64 := zi_rd hIm109 hc0 zb_28_48
            have r117 : 0 ≤ (m109 a0 46) ∧ (m109 a0 46) ≤ 96 := zi_rd hIm109 hc0 zb_28_46
            have r118 : 0 ≤ (m109 a0 49) ∧ (m109 a0 49) ≤ 1 := zi_rd hIm109 hc0 zb_28_49
            have r119 : 0 ≤ (m109 a0 45) ∧ (m109 a0 45) ≤ 96 := zi_rd hIm109 hc0 zb_28_45
            have r120 : 0 ≤ (m109 a0 47) ∧ (m109 a0 47) ≤ 8 := zi_rd hIm109 hc0 zb_28_47
            have r121 : (-2147483648) ≤ (m109 a0 4) ∧ (m109 a0 4) ≤ 2147483647 := zi_rd hIm109 hc0 zb_28_4
            have y122 := (hvm109.1)
            have y123 := (hvm109.2.1)
            have y124 := zhid_mk (hvm109.2.2.1)
            have y125 := zhid_mk (hvm109.2.2.2.1)
            have y126 := zhid_mk (hvm109.2.2.2.2.1)
            have y127 := zhid_mk (hvm109.2.2.2.2.2.1)
            have y128 := zhid_mk (hvm109.2.2.2.2.2.2.1)
            have y129 := zhid_mk (hvm109.2.2.2.2.2.2.2.1)
            have y130 := zhid_mk (hvm109.2.2.2.2.2.2.2.2)
            clear hvm109
            refine zw_ite (fun h131 => ?_) (fun h131 => ?_)
            · have s132 := (zhid_of y130) (by omega)
              refine zw_b (by omega) ?_
              exact zw_some ⟨hIm109, hFm109, hLm109, hRKNm109, hRNSm109, hRTRm109, hRWDm109, ⟨by decide, by decide⟩, by omega, fun h => absurd h (by decide), fun h => absurd h (by decide), fun _ => by omega⟩
            · have s133 := (zhid_of y124) (by omega)
              have s134 := (zhid_of y125) (by omega)
              have s135 := (zhid_of y126) (by omega)
              have s136 := (zhid_of y127) (by omega)
              have s137 := (zhid_of y128) (by omega)
              have s138 := (zhid_of y129) (by omega)
              have hM : (7 * (700 - (m109 a0 7)) + (m109 a0 8)) * 1 + 0 < (k : Int) := by omega
              exact ih  m109 hIm109 hFm109 hLm109 (by omega) (by omega) (by omega) (by omega) (by omega) (by omega) hRKNm109 hRNSm109 hRTRm109 hRWDm109 hM
        · exfalso; omega
      · refine zw_b (by omega) ?_
        refine zw_some ?_
        refine zw_ite (fun h139 => ?_) (fun h139 => ?_)
        · exfalso; omega
        · refine zw_ite (fun h140 => ?_) (fun h140 => ?_)
          · refine zw_ite (fun h141 => ?_) (fun h141 => ?_)
            · exfalso; omega
            · refine zw_bd (zw_mono (zk_116k n hImh hc0 ⟨by omega, by omega⟩ (by omega) (by omega) (by omega) (by omega) hRKNmh hRNSmh hRTRmh hRWDmh) (fun v143 m142 hqm142 => ?_))
              obtain ⟨hIm142, hfm142, hlm142, hvm142⟩ := hqm142
              have hFm142 := zfr_tr hFmh hfm142 rfl
              have hLm142 := zlot_go hLmh hlm142
              obtain ⟨hRKNm142, hRNSm142, hRTRm142, hRWDm142, hvm142⟩ := hvm142
              have g144 := zwt_bd hIm142 hc0
              have s145 := hRNSm142 a0 hc0
              have r146 : 0 ≤ (m142 a0 7) ∧ (m142 a0 7) ≤ 700 := zi_rd hIm142 hc0 zb_28_7
              have r147 : 0 ≤ (m142 a0 8) ∧ (m142 a0 8) ≤ 6 := zi_rd hIm142 hc0 zb_28_8
              have r148 : 0 ≤ (m142 a0 21) ∧ (m142 a0 21) ≤ 64 := zi_rd hIm142 hc0 zb_28_21
              have r149 : 0 ≤ (m142 a0 48) ∧ (m142 a0 48) ≤ 64 := zi_rd hIm142 hc0 zb_28_48
              have r150 : 0 ≤ (m142 a0 46) ∧ (m142 a0 46) ≤ 96 := zi_rd hIm142 hc0 zb_28_46
              have r151 : 0 ≤ (m142 a0 49) ∧ (m142 a0 49) ≤ 1 := zi_rd hIm142 hc0 zb_28_49
              have r152 : 0 ≤ (m142 a0 45) ∧ (m142 a0 45) ≤ 96 := zi_rd hIm142 hc0 zb_28_45
              have r153 : 0 ≤ (m142 a0 47) ∧ (m142 a0 47) ≤ 8 := zi_rd hIm142 hc0 zb_28_47
              have r154 : (-2147483648) ≤ (m142 a0 4) ∧ (m142 a0 4) ≤ 2147483647 := zi_rd hIm142 hc0 zb_28_4
              have y155 := (hvm142.1)
              have y156 := (hvm142.2.1)
              have y157 := zhid_mk (hvm142.2.2.1)
              have y158 := zhid_mk (hvm142.2.2.2.1)
              have y159 := zhid_mk (hvm142.2.2.2.2.1)
              have y160 := zhid_mk (hvm142.2.2.2.2.2.1)
              have y161 := zhid_mk (hvm142.2.2.2.2.2.2.1)
              have y162 := zhid_mk (hvm142.2.2.2.2.2.2.2.1)
              have y163 := zhid_mk (hvm142.2.2.2.2.2.2.2.2)
              clear hvm142
              refine zw_ite (fun h164 => ?_) (fun h164 => ?_)
              · have s165 := (zhid_of y163) (by omega)
                refine zw_b (by omega) ?_
                exact zw_some ⟨hIm142, hFm142, hLm142, hRKNm142, hRNSm142, hRTRm142, hRWDm142, ⟨by decide, by decide⟩, by omega, fun h => absurd h (by decide), fun h => absurd h (by decide), fun _ => by omega⟩
              · have s166 := (zhid_of y157) (by omega)
                have s167 := (zhid_of y158) (by omega)
                have s168 := (zhid_of y159) (by omega)
                have s169 := (zhid_of y160) (by omega)
                have s170 := (zhid_of y161) (by omega)
                have s171 := (zhid_of y162) (by omega)
                have hM : (7 * (700 - (m142 a0 7)) + (m142 a0 8)) * 1 + 0 < (k : Int) := by omega
                exact ih  m142 hIm142 hFm142 hLm142 (by omega) (by omega) (by omega) (by omega) (by omega) (by omega) hRKNm142 hRNSm142 hRTRm142 hRWDm142 hM
          · refine zw_ite (fun h172 => ?_) (fun h172 => ?_)
            · refine zw_bd (zw_mono (zk_112k n hImh hc0 ⟨by decide, by decide⟩ (by omega) (by omega) (by omega) hRKNmh) (fun v174 m173 hqm173 => ?_))
              obtain ⟨hIm173, hfm173, hlm173, hvm173⟩ := hqm173
              have hFm173 := zfr_tr hFmh hfm173 rfl
              have hLm173 := zlot_go hLmh hlm173
              obtain ⟨hRKNm173, hvm173⟩ := hvm173
              have hRNSm173 := zR_NS_fr (zdis_fr hfm173 rfl) hRNSmh
              have hRTRm173 := zR_TR_fr (zdis_fr hfm173 rfl) hRTRmh
              have hRWDm173 := zR_WD_fr (zdis_fr hfm173 rfl) hRWDmh
              have g175 := zwt_bd hIm173 hc0
              have s176 := hRNSm173 a0 hc0
              have r177 : 0 ≤ (m173 a0 21) ∧ (m173 a0 21) ≤ 64 := zi_rd hIm173 hc0 zb_28_21
              have r178 : 0 ≤ (m173 a0 46) ∧ (m173 a0 46) ≤ 96 := zi_rd hIm173 hc0 zb_28_46
              have r179 : 0 ≤ (m173 a0 45) ∧ (m173 a0 45) ≤ 96 := zi_rd hIm173 hc0 zb_28_45
              refine zw_b (by omega) ?_
              have g180 := zwt_top hIm173 hc0
              have r181 : 0 ≤ (m173 a0 7) ∧ (m173 a0 7) ≤ 700 := zi_rd hIm173 hc0 zb_28_7
              have e182 : (m173 a0 7) = (mh a0 7) := (zfr_ap hfm173 hc0 rfl)
              have r183 : 0 ≤ (m173 a0 48) ∧ (m173 a0 48) ≤ 64 := zi_rd hIm173 hc0 zb_28_48
              have e184 : (m173 a0 48) = (mh a0 48) := (zfr_ap hfm173 hc0 rfl)
              have r185 : (-2147483648) ≤ (m173 a0 4) ∧ (m173 a0 4) ≤ 2147483647 := zi_rd hIm173 hc0 zb_28_4
              have e186 : (m173 a0 4) = (mh a0 4) := (zfr_ap hfm173 hc0 rfl)
              exact zw_some ⟨hIm173, hFm173, hLm173, hRKNm173, hRNSm173, hRTRm173, hRWDm173, ⟨by decide, by decide⟩, by omega, fun _ => by omega, fun _ => by omega, fun h => absurd h (by decide)⟩
            · refine zw_ite (fun h187 => ?_) (fun h187 => ?_)
              · refine zw_bd (zw_mono (zk_117k n hImh hc0 ⟨by omega, by omega⟩ (by omega) (by omega) (by omega) (by omega) (by omega) hRKNmh hRNSmh hRTRmh hRWDmh) (fun v189 m188 hqm188 => ?_))
                obtain ⟨hIm188, hfm188, hlm188, hvm188⟩ := hqm188
                have hFm188 := zfr_tr hFmh hfm188 rfl
                have hLm188 := zlot_go hLmh hlm188
                obtain ⟨hRKNm188, hRNSm188, hRTRm188, hRWDm188, hvm188⟩ := hvm188
                have g190 := zwt_bd hIm188 hc0
                have s191 := hRNSm188 a0 hc0
                have r192 : 0 ≤ (m188 a0 7) ∧ (m188 a0 7) ≤ 700 := zi_rd hIm188 hc0 zb_28_7
                have r193 : 0 ≤ (m188 a0 8) ∧ (m188 a0 8) ≤ 6 := zi_rd hIm188 hc0 zb_28_8
                have r194 : 0 ≤ (m188 a0 21) ∧ (m188 a0 21) ≤ 64 := zi_rd hIm188 hc0 zb_28_21
                have r195 : 0 ≤ (m188 a0 48) ∧ (m188 a0 48) ≤ 64 := zi_rd hIm188 hc0 zb_28_48
                have r196 : 0 ≤ (m188 a0 46) ∧ (m188 a0 46) ≤ 96 := zi_rd hIm188 hc0 zb_28_46
                have r197 : 0 ≤ (m188 a0 49) ∧ (m188 a0 49) ≤ 1 := zi_rd hIm188 hc0 zb_28_49
                have r198 : 0 ≤ (m188 a0 45) ∧ (m188 a0 45) ≤ 96 := zi_rd hIm188 hc0 zb_28_45
                have r199 : 0 ≤ (m188 a0 47) ∧ (m188 a0 47) ≤ 8 := zi_rd hIm188 hc0 zb_28_47
                have r200 : (-2147483648) ≤ (m188 a0 4) ∧ (m188 a0 4) ≤ 2147483647 := zi_rd hIm188 hc0 zb_28_4
                have y201 := (hvm188.1)
                have y202 := (hvm188.2.1)
                have y203 := zhid_mk (hvm188.2.2.1)
                have y204 := zhid_mk (hvm188.2.2.2.1)
                have y205 := zhid_mk (hvm188.2.2.2.2.1)
                have y206 := zhid_mk (hvm188.2.2.2.2.2.1)
                have y207 := zhid_mk (hvm188.2.2.2.2.2.2.1)
                have y208 := zhid_mk (hvm188.2.2.2.2.2.2.2.1)
                have y209 := zhid_mk (hvm188.2.2.2.2.2.2.2.2)
                clear hvm188
                refine zw_ite (fun h210 => ?_) (fun h210 => ?_)
                · have s211 := (zhid_of y203) (by omega)
                  have s212 := (zhid_of y204) (by omega)
                  have s213 := (zhid_of y205) (by omega)
                  have s214 := (zhid_of y206) (by omega)
                  have s215 := (zhid_of y207) (by omega)
                  have s216 := (zhid_of y208) (by omega)
                  have hM : (7 * (700 - (m188 a0 7)) + (m188 a0 8)) * 1 + 0 < (k : Int) := by omega
                  exact ih  m188 hIm188 hFm188 hLm188 (by omega) (by omega) (by omega) (by omega) (by omega) (by omega) hRKNm188 hRNSm188 hRTRm188 hRWDm188 hM
                · have s217 := (zhid_of y209) (by omega)
                  refine zw_b (by omega) ?_
                  exact zw_some ⟨hIm188, hFm188, hLm188, hRKNm188, hRNSm188, hRTRm188, hRWDm188, ⟨by decide, by decide⟩, by omega, fun h => absurd h (by decide), fun h => absurd h (by decide), fun _ => by omega⟩
              · exfalso; omega
set_option maxHeartbeats 4000000 in
theorem zk_118k (n : Nat) {a0 : Int} {m0 : zu_m} (hIm0 : zi_I m0) (hc0 : zcls a0 = 28)    (hxp0 : (m0 a0 21) = (m0 a0 48)) (hRKNm0 : zR_KN m0) (hRNSm0 : zR_NS m0) (hRTRm0 : zR_TR m0) (hRWDm0 : zR_WD m0) : zw (zu_call (zt_T n) 118 [(40, a0)] m0) (fun v m => zi_I m ∧ zfr [(28, 5), (28, 6), (28, 8), (28, 9), (28, 10), (28, 11), (28, 22), (28, 46), (28, 47), (28, 48), (28, 49), (28, 50), (28, 51), (117, 0), (118, 0), (119, 0), (120, 0), (121, 0)] m0 m ∧ zlot m0 m ∧ zR_KN m ∧ zR_NS m ∧ zR_TR m ∧ zR_WD m ∧ (0 ≤ v ∧ v ≤ 1) ∧ ((m0 a0 7) ≤ (m a0 7)) ∧ (v = 1 → ((m a0 21) = (m a0 48) ∧ 1 ≤ (m a0 21))) ∧ (v = 1 → (m a0 4) = (m0 a0 4)) ∧ (v = 0 → (m a0 4) ≠ 0)) := by
  have hFm0 : zfr [(28, 5), (28, 6), (28, 8), (28, 9), (28, 10), (28, 11), (28, 22), (28, 46), (28, 47), (28, 48), (28, 49), (28, 50), (28, 51), (117, 0), (118, 0), (119, 0), (120, 0), (121, 0)] m0 m0 := zfr_rf _ _
  have hLm0 : zlot m0 m0 := zlot_rf m0
  have r218 : 0 ≤ (m0 a0 7) ∧ (m0 a0 7) ≤ 700 := zi_rd hIm0 hc0 zb_28_7
  have r219 : (-2147483648) ≤ (m0 a0 4) ∧ (m0 a0 4) ≤ 2147483647 := zi_rd hIm0 hc0 zb_28_4
  have r220 : 0 ≤ (m0 a0 21) ∧ (m0 a0 21) ≤ 64 := zi_rd hIm0 hc0 zb_28_21
  have r221 : 0 ≤ (m0 a0 48) ∧ (m0 a0 48) ≤ 64 := zi_rd hIm0 hc0 zb_28_48
  have g222 := zwt_bd hIm0 hc0
  have s223 := hRNSm0 a0 hc0
  refine zw_eq (zu_call_at (zt_T n) (zm_118 n) (zdp_118 n) _ _ _ _ _ rfl (zr_118_0 n _ _ a0 m0)) ?_
  generalize hmm224 : zu_up m0 a0 45 0 = m224
  have hIm224 := zi_up hmm224 hIm0 hc0 zb_28_45 (by omega) (by omega)
  have hFm224 := zfr_up hmm224 hFm0 hc0 rfl
  have hLm224 := zlot_i hmm224 hLm0 hc0 (by decide)
  have hRKNm224 := zR_KN_fr (zdis_fr (zfr_up hmm224 (zfr_rf [(28, 46)] _) hc0 rfl) rfl) hRKNm0
  have hRNSm224 := zR_NS_fr (zdis_fr (zfr_up hmm224 (zfr_rf [(28, 46)] _) hc0 rfl) rfl) hRNSm0
  have hRTRm224 := zR_TR_fr (zdis_fr (zfr_up hmm224 (zfr_rf [(28, 46)] _) hc0 rfl) rfl) hRTRm0
  have hRWDm224 := zR_WD_fr (zdis_fr (zfr_up hmm224 (zfr_rf [(28, 46)] _) hc0 rfl) rfl) hRWDm0
  have g225 := zwt_zero hmm224 hc0
  generalize hmm226 : zu_up m224 a0 46 0 = m226
  have hIm226 := zi_up hmm226 hIm224 hc0 zb_28_46 (by omega) (by omega)
  have hFm226 := zfr_up hmm226 hFm224 hc0 rfl
  have hLm226 := zlot_i hmm226 hLm224 hc0 (by decide)
  have g227 := zwt_fr (zdis_fr (zfr_up hmm226 (zfr_rf [(28, 47)] _) hc0 rfl) rfl)
  have hRKNm226 := zR_KN_fr (zdis_fr (zfr_up hmm226 (zfr_rf [(28, 47)] _) hc0 rfl) rfl) hRKNm224
  have hRNSm226 := zR_NS_fr (zdis_fr (zfr_up hmm226 (zfr_rf [(28, 47)] _) hc0 rfl) rfl) hRNSm224
  have hRTRm226 := zR_TR_fr (zdis_fr (zfr_up hmm226 (zfr_rf [(28, 47)] _) hc0 rfl) rfl) hRTRm224
  have hRWDm226 := zR_WD_fr (zdis_fr (zfr_up hmm226 (zfr_rf [(28, 47)] _) hc0 rfl) rfl) hRWDm224
  generalize hmm228 : zu_up m226 a0 47 0 = m228
  have hIm228 := zi_up hmm228 hIm226 hc0 zb_28_47 (by omega) (by omega)
  have hFm228 := zfr_up hmm228 hFm226 hc0 rfl
  have hLm228 := zlot_i hmm228 hLm226 hc0 (by decide)
  have g229 := zwt_fr (zdis_fr (zfr_up hmm228 (zfr_rf [(28, 48)] _) hc0 rfl) rfl)
  have hRKNm228 := zR_KN_fr (zdis_fr (zfr_up hmm228 (zfr_rf [(28, 48)] _) hc0 rfl) rfl) hRKNm226
  have hRNSm228 := zR_NS_fr (zdis_fr (zfr_up hmm228 (zfr_rf [(28, 48)] _) hc0 rfl) rfl) hRNSm226
  have hRTRm228 := zR_TR_fr (zdis_fr (zfr_up hmm228 (zfr_rf [(28, 48)] _) hc0 rfl) rfl) hRTRm226
  have hRWDm228 := zR_WD_fr (zdis_fr (zfr_up hmm228 (zfr_rf [(28, 48)] _) hc0 rfl) rfl) hRWDm226
  refine zw_b (by omega) ?_
  generalize hmm230 : zu_up m228 a0 49 1 = m230
  have hIm230 := zi_up hmm230 hIm228 hc0 zb_28_49 (by omega) (by omega)
  have hFm230 := zfr_up hmm230 hFm228 hc0 rfl
  have hLm230 := zlot_i hmm230 hLm228 hc0 (by decide)
  have g231 := zwt_fr (zdis_fr (zfr_up hmm230 (zfr_rf [(28, 50)] _) hc0 rfl) rfl)
  have hRKNm230 := zR_KN_fr (zdis_fr (zfr_up hmm230 (zfr_rf [(28, 50)] _) hc0 rfl) rfl) hRKNm228
  have hRNSm230 := zR_NS_fr (zdis_fr (zfr_up hmm230 (zfr_rf [(28, 50)] _) hc0 rfl) rfl) hRNSm228
  have hRTRm230 := zR_TR_fr (zdis_fr (zfr_up hmm230 (zfr_rf [(28, 50)] _) hc0 rfl) rfl) hRTRm228
  have hRWDm230 := zR_WD_fr (zdis_fr (zfr_up hmm230 (zfr_rf [(28, 50)] _) hc0 rfl) rfl) hRWDm228
  refine zw_b (by omega) ?_
  generalize hmm232 : zu_up m230 a0 50 1 = m232
  have hIm232 := zi_up hmm232 hIm230 hc0 zb_28_50 (by omega) (by omega)
  have hFm232 := zfr_up hmm232 hFm230 hc0 rfl
  have hLm232 := zlot_i hmm232 hLm230 hc0 (by decide)
  have g233 := zwt_fr (zdis_fr (zfr_up hmm232 (zfr_rf [(28, 51)] _) hc0 rfl) rfl)
  have hRKNm232 := zR_KN_fr (zdis_fr (zfr_up hmm232 (zfr_rf [(28, 51)] _) hc0 rfl) rfl) hRKNm230
  have hRNSm232 := zR_NS_fr (zdis_fr (zfr_up hmm232 (zfr_rf [(28, 51)] _) hc0 rfl) rfl) hRNSm230
  have hRTRm232 := zR_TR_fr (zdis_fr (zfr_up hmm232 (zfr_rf [(28, 51)] _) hc0 rfl) rfl) hRTRm230
  have hRWDm232 := zR_WD_fr (zdis_fr (zfr_up hmm232 (zfr_rf [(28, 51)] _) hc0 rfl) rfl) hRWDm230
  have r234 : 0 ≤ (m232 a0 7) ∧ (m232 a0 7) ≤ 700 := zi_rd hIm232 hc0 zb_28_7
  have e235 : (m232 a0 7) = (m0 a0 7) := (Eq.trans (zs_ne hmm232 (Or.inr (by decide))) (Eq.trans (zs_ne hmm230 (Or.inr (by decide))) (Eq.trans (zs_ne hmm228 (Or.inr (by decide))) (Eq.trans (zs_ne hmm226 (Or.inr (by decide))) (zs_ne hmm224 (Or.inr (by decide)))))))
  have r236 : 0 ≤ (m232 a0 21) ∧ (m232 a0 21) ≤ 64 := zi_rd hIm232 hc0 zb_28_21
  have e237 : (m232 a0 21) = (m0 a0 21) := (Eq.trans (zs_ne hmm232 (Or.inr (by decide))) (Eq.trans (zs_ne hmm230 (Or.inr (by decide))) (Eq.trans (zs_ne hmm228 (Or.inr (by decide))) (Eq.trans (zs_ne hmm226 (Or.inr (by decide))) (zs_ne hmm224 (Or.inr (by decide)))))))
  have r238 : 0 ≤ (m232 a0 48) ∧ (m232 a0 48) ≤ 64 := zi_rd hIm232 hc0 zb_28_48
  have e239 : (m232 a0 48) = (m0 a0 48) := (Eq.trans (zs_ne hmm232 (Or.inr (by decide))) (Eq.trans (zs_ne hmm230 (Or.inr (by decide))) (Eq.trans (zs_ne hmm228 (Or.inr (by decide))) (Eq.trans (zs_ne hmm226 (Or.inr (by decide))) (zs_ne hmm224 (Or.inr (by decide)))))))
  have r240 : 0 ≤ (m232 a0 46) ∧ (m232 a0 46) ≤ 96 := zi_rd hIm232 hc0 zb_28_46
  have e241 : (m232 a0 46) = 0 := (Eq.trans (zs_ne hmm232 (Or.inr (by decide))) (Eq.trans (zs_ne hmm230 (Or.inr (by decide))) (Eq.trans (zs_ne hmm228 (Or.inr (by decide))) (zs_eq hmm226))))
  have r242 : 0 ≤ (m232 a0 49) ∧ (m232 a0 49) ≤ 1 := zi_rd hIm232 hc0 zb_28_49
  have e243 : (m232 a0 49) = 1 := (Eq.trans (zs_ne hmm232 (Or.inr (by decide))) (zs_eq hmm230))
  have r244 : 0 ≤ (m232 a0 45) ∧ (m232 a0 45) ≤ 96 := zi_rd hIm232 hc0 zb_28_45
  have e245 : (m232 a0 45) = 0 := (Eq.trans (zs_ne hmm232 (Or.inr (by decide))) (Eq.trans (zs_ne hmm230 (Or.inr (by decide))) (Eq.trans (zs_ne hmm228 (Or.inr (by decide))) (Eq.trans (zs_ne hmm226 (Or.inr (by decide))) (zs_eq hmm224)))))
  have r246 : 0 ≤ (m232 a0 47) ∧ (m232 a0 47) ≤ 8 := zi_rd hIm232 hc0 zb_28_47
  have e247 : (m232 a0 47) = 0 := (Eq.trans (zs_ne hmm232 (Or.inr (by decide))) (Eq.trans (zs_ne hmm230 (Or.inr (by decide))) (zs_eq hmm228)))
  have r248 : (-2147483648) ≤ (m232 a0 4) ∧ (m232 a0 4) ≤ 2147483647 := zi_rd hIm232 hc0 zb_28_4
  have e249 : (m232 a0 4) = (m0 a0 4) := (Eq.trans (zs_ne hmm232 (Or.inr (by decide))) (Eq.trans (zs_ne hmm230 (Or.inr (by decide))) (Eq.trans (zs_ne hmm228 (Or.inr (by decide))) (Eq.trans (zs_ne hmm226 (Or.inr (by decide))) (zs_ne hmm224 (Or.inr (by decide)))))))
  have r250 : 0 ≤ (m232 a0 8) ∧ (m232 a0 8) ≤ 6 := zi_rd hIm232 hc0 zb_28_8
  have hM : (7 * (700 - (m232 a0 7)) + (m232 a0 8)) * 1 + 0 < ((4907 : Nat) : Int) := by omega
  exact (zl_118k n (m0 := m0) hc0 hxp0 4907)  m232 hIm232 hFm232 hLm232 (by omega) (by omega) (by omega) (by omega) (by omega) (by omega) hRKNm232 hRNSm232 hRTRm232 hRWDm232 hM

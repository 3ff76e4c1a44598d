/-! signs of the reference, a token of it -/
def zSgR (c d k w l : Int) : Prop := (c = 60 ∧ d = 61 ∧ k = 5 ∧ w = 1 ∧ l = 2) ∨ (c = 60 ∧ d = 62 ∧ k = 5 ∧ w = 3 ∧ l = 2) ∨ (c = 60 ∧ d ≠ 61 ∧ d ≠ 62 ∧ k = 5 ∧ w = 0 ∧ l = 1) ∨ (c = 62 ∧ d = 61 ∧ k = 5 ∧ w = 4 ∧ l = 2) ∨ (c = 62 ∧ d ≠ 61 ∧ k = 5 ∧ w = 5 ∧ l = 1) ∨ (c = 61 ∧ k = 5 ∧ w = 2 ∧ l = 1) ∨ (c ≠ 60 ∧ c ≠ 61 ∧ c ≠ 62 ∧ l = 1 ∧ w = c ∧ ((k = 4 ∧ (c = 59 ∨ c = 40 ∨ c = 41 ∨ c = 43 ∨ c = 45 ∨ c = 42 ∨ c = 47 ∨ c = 37)) ∨ (k = 6 ∧ c ≠ 59 ∧ c ≠ 40 ∧ c ≠ 41 ∧ c ≠ 43 ∧ c ≠ 45 ∧ c ≠ 42 ∧ c ≠ 47 ∧ c ≠ 37)))
def zX2 (c d : Int) : Int := if c = 61 then 0 else if d ≠ 61 then 0 else 1
def zX3 (c d : Int) : Int := if c ≠ 60 then 0 else if d ≠ 62 then 0 else 1
def zXY (c x2 x3 : Int) : Int := if c ≠ 61 then (if c ≠ 60 then (if x2 = 0 then 5 else 4) else (if x2 = 0 then (if x3 = 0 then 0 else 3) else 1)) else 2
def zXp (x2 x3 p : Int) : Int := if x2 ≠ 0 then p + 1 else if x3 = 0 then p else p + 1
def zXk (c : Int) : Int := if c = 59 then 1 else if c = 40 then 1 else if c = 41 then 1 else if c = 43 then 1 else if c = 45 then 1 else if c = 42 then 1 else if c = 47 then 1 else if c ≠ 37 then 0 else 1
theorem zSgR_cmp {c d : Int} (hc : c = 60 ∨ c = 61 ∨ c = 62) : zSgR c d 5 (zXY c (zX2 c d) (zX3 c d)) (zXp (zX2 c d) (zX3 c d) 1) := by
  rcases hc with rfl | rfl | rfl
  · by_cases h1 : d = 61
    · subst h1; unfold zSgR; decide
    · by_cases h2 : d = 62
      · subst h2; unfold zSgR; decide
      · have e2 : zX2 60 d = 0 := by unfold zX2; rw [if_neg (by decide), if_pos h1]
        have e3 : zX3 60 d = 0 := by unfold zX3; rw [if_neg (by decide), if_pos h2]
        rw [e2, e3]
        exact Or.inr (Or.inr (Or.inl ⟨rfl, h1, h2, rfl, rfl, rfl⟩))
  · have e2 : zX2 61 d = 0 := by unfold zX2; rw [if_pos rfl]
    have e3 : zX3 61 d = 0 := by unfold zX3; rw [if_pos (by decide)]
    rw [e2, e3]
    exact Or.inr (Or.inr (Or.inr (Or.inr (Or.inr (Or.inl ⟨rfl, rfl, rfl, rfl⟩)))))
  · have e3 : zX3 62 d = 0 := by unfold zX3; rw [if_pos (by decide)]
    rw [e3]
    by_cases h1 : d = 61
    · subst h1; unfold zSgR; decide
    · have e2 : zX2 62 d = 0 := by unfold zX2; rw [if_neg (by decide), if_pos h1]
      rw [e2]
      exact Or.inr (Or.inr (Or.inr (Or.inr (Or.inl ⟨rfl, h1, rfl, rfl, rfl⟩))))
theorem zSgR_oth {c d : Int} (h0 : c ≠ 60) (h1 : c ≠ 61) (h2 : c ≠ 62) : zSgR c d (if zXk c = 0 then 6 else 4) c 1 := by
  refine Or.inr (Or.inr (Or.inr (Or.inr (Or.inr (Or.inr ⟨h0, h1, h2, rfl, rfl, ?_⟩)))))
  by_cases a1 : c = 59
  · subst a1; decide
  by_cases a2 : c = 40
  · subst a2; decide
  by_cases a3 : c = 41
  · subst a3; decide
  by_cases a4 : c = 43
  · subst a4; decide
  by_cases a5 : c = 45
  · subst a5; decide
  by_cases a6 : c = 42
  · subst a6; decide
  by_cases a7 : c = 47
  · subst a7; decide
  by_cases a8 : c = 37
  · subst a8; decide
  have e : zXk c = 0 := by unfold zXk; rw [if_neg a1, if_neg a2, if_neg a3, if_neg a4, if_neg a5, if_neg a6, if_neg a7, if_pos a8]
  rw [e, if_pos rfl]
  exact Or.inr ⟨rfl, a1, a2, a3, a4, a5, a6, a7, a8⟩
theorem zy_90_cmp (n : Nat) {m1 : zu_m} {c d p pl : Int} (hp0 : 0 ≤ p) (hp7 : p ≤ 700) (h7 : m1 190 6 ≤ 700) (e9 : m1 190 9 = c) (e7 : m1 190 7 = p) (e10 : m1 190 10 = pl) (hd : (if p < m1 190 6 then m1 191 p else 0) = d) : zw (zu_ex (zt_T n) 90 50 [(40, 190), (2, 0), (2, 0), (2, 0)] [] m1) (fun _ m' => zfr [(28, 8), (28, 9), (28, 10)] m1 m' ∧ m' 190 10 = pl ∧ m' 190 8 = 5 ∧ m' 190 9 = zXY c (zX2 c d) (zX3 c d) ∧ m' 190 7 = zXp (zX2 c d) (zX3 c d) p) := by
  have g75 : zw (zu_ex (zt_T n) 90 75 [(40, 190), (0, d), (2, 0), (2, 0)] [] m1) (fun _ m' => zfr [(28, 8), (28, 9), (28, 10)] m1 m' ∧ m' 190 10 = pl ∧ m' 190 8 = 5 ∧ m' 190 9 = zXY c (zX2 c d) (zX3 c d) ∧ m' 190 7 = zXp (zX2 c d) (zX3 c d) p) := by
    refine zw_eq (zu_rega_at (zt_T n) (zm_90 n) (zdp_90 n) _ _ _ _ _ _ (zs_90_75 n _ _ d m1)) ?_
    rw [e9]
    refine zw_eq (y := zu_ex (zt_T n) 90 96 [(40, 190), (0, d), (0, zX2 c d), (2, 0)] [] m1) (by unfold zX2; split; rfl; split <;> rfl) ?_
    refine zw_eq (zu_rega_at (zt_T n) (zm_90 n) (zdp_90 n) _ _ _ _ _ _ (zs_90_96 n _ _ d (zX2 c d) m1)) ?_
    rw [e9]
    refine zw_eq (y := zu_ex (zt_T n) 90 117 [(40, 190), (0, d), (0, zX2 c d), (0, zX3 c d)] [] m1) (by unfold zX3; split; rfl; split <;> rfl) ?_
    generalize zX2 c d = x2
    generalize zX3 c d = x3
    refine zw_eq (zu_rega_at (zt_T n) (zm_90 n) (zdp_90 n) _ _ _ _ _ _ (zs_90_117 n _ _ d x2 x3 m1)) ?_
    rw [e7, zu_w32_id (z := p + 1) (by omega) (by omega)]
    have g135 : ∀ (m2 : zu_m), zfr [(28, 8), (28, 9), (28, 10)] m1 m2 → m2 190 9 = c → m2 190 10 = pl → m2 190 7 = zXp x2 x3 p → zw (zu_ex (zt_T n) 90 135 [(40, 190), (0, d), (0, x2), (0, x3)] [] m2) (fun _ m' => zfr [(28, 8), (28, 9), (28, 10)] m1 m' ∧ m' 190 10 = pl ∧ m' 190 8 = 5 ∧ m' 190 9 = zXY c x2 x3 ∧ m' 190 7 = zXp x2 x3 p) := fun m2 hfr g9 g10 g7 => by
      refine zw_eq (zu_rega_at (zt_T n) (zm_90 n) (zdp_90 n) _ _ _ _ _ _ (zs_90_135 n _ _ d x2 x3 m2)) ?_
      generalize hm3 : zu_up m2 190 8 5 = m3
      have f9 : m3 190 9 = c := by rw [← g9]; exact zs_ne hm3 (Or.inr (by decide))
      have f8 : m3 190 8 = 5 := zs_eq hm3
      have f7 : m3 190 7 = zXp x2 x3 p := by rw [← g7]; exact zs_ne hm3 (Or.inr (by decide))
      have f10 : m3 190 10 = pl := by rw [← g10]; exact zs_ne hm3 (Or.inr (by decide))
      rw [f9]
      refine zw_eq (y := zu_ex (zt_T n) 90 192 [(40, 190), (0, d), (0, x2), (0, x3)] [(0, zXY c x2 x3), (40, 190)] m3) (by unfold zXY; split; split; split <;> rfl; split; split <;> rfl; rfl; rfl) ?_
      refine zw_eq (zu_rega_at (zt_T n) (zm_90 n) (zdp_90 n) _ _ _ _ _ _ (zs_90_192 n _ _ d x2 x3 (zXY c x2 x3) m3)) ?_
      generalize hm4 : zu_up m3 190 9 (zXY c x2 x3) = m4
      exact zw_some ⟨zfr_up hm4 (zfr_up hm3 hfr zq_190 rfl) zq_190 rfl, (zs_ne hm4 (Or.inr (by decide))).trans f10, (zs_ne hm4 (Or.inr (by decide))).trans f8, zs_eq hm4, (zs_ne hm4 (Or.inr (by decide))).trans f7⟩
    have up : zXp x2 x3 p = p + 1 → zw (zu_ex (zt_T n) 90 135 [(40, 190), (0, d), (0, x2), (0, x3)] [] (zu_up m1 190 7 (p + 1))) (fun _ m' => zfr [(28, 8), (28, 9), (28, 10)] m1 m' ∧ m' 190 10 = pl ∧ m' 190 8 = 5 ∧ m' 190 9 = zXY c x2 x3 ∧ m' 190 7 = zXp x2 x3 p) := fun hX => by
      generalize hm2 : zu_up m1 190 7 (p + 1) = m2
      exact g135 m2 (zfr_up hm2 (zfr_rf _ _) zq_190 rfl) ((zs_ne hm2 (Or.inr (by decide))).trans e9) ((zs_ne hm2 (Or.inr (by decide))).trans e10) (by rw [hX]; exact zs_eq hm2)
    refine zw_ite (fun q1 => up (by unfold zXp; rw [if_pos q1])) (fun q1 => ?_)
    refine zw_ite (fun q2 => ?_) (fun q2 => up (by unfold zXp; rw [if_neg q1, if_neg q2]))
    exact g135 m1 (zfr_rf _ _) e9 e10 (by unfold zXp; rw [if_neg q1, if_pos q2]; exact e7)
  refine zw_eq (zu_rega_at (zt_T n) (zm_90 n) (zdp_90 n) _ _ _ _ _ _ (zs_90_50 n _ _ m1)) ?_
  rw [e7]
  refine zw_ite (fun q1 => ?_) (fun q1 => ?_)
  · rw [if_neg (by omega)] at hd
    subst hd
    exact g75
  · rw [if_pos (by omega)] at hd
    subst hd
    exact zw_if ⟨by omega, by omega⟩ g75
theorem zy_90_oth (n : Nat) {m1 : zu_m} {c p pl : Int} (e9 : m1 190 9 = c) (e7 : m1 190 7 = p) (e10 : m1 190 10 = pl) : zw (zu_ex (zt_T n) 90 198 [(40, 190), (2, 0), (2, 0), (2, 0)] [] m1) (fun _ m' => zfr [(28, 9)] m1 m' ∧ m' 190 10 = pl ∧ m' 190 8 = (if zXk c = 0 then 6 else 4) ∧ m' 190 9 = c ∧ m' 190 7 = p) := by
  have g275 : ∀ y : Int, zw (zu_ex (zt_T n) 90 275 [(40, 190), (2, 0), (2, 0), (2, 0)] [(0, y)] m1) (fun _ m' => zfr [(28, 9)] m1 m' ∧ m' 190 10 = pl ∧ m' 190 8 = (if y = 0 then 6 else 4) ∧ m' 190 9 = c ∧ m' 190 7 = p) := fun y => by
    refine zw_eq (zu_rega_at (zt_T n) (zm_90 n) (zdp_90 n) _ _ _ _ _ _ (zs_90_275 n _ _ y m1)) ?_
    refine zw_eq (y := zu_ex (zt_T n) 90 287 [(40, 190), (0, y), (2, 0), (2, 0)] [(0, if y = 0 then 6 else 4), (40, 190)] m1) (by split <;> rfl) ?_
    generalize (if y = 0 then (6 : Int) else 4) = k
    refine zw_eq (zu_rega_at (zt_T n) (zm_90 n) (zdp_90 n) _ _ _ _ _ _ (zs_90_287 n _ _ y k m1)) ?_
    generalize hm4 : zu_up m1 190 8 k = m4
    exact zw_some ⟨zfr_up hm4 (zfr_rf _ _) zq_190 rfl, (zs_ne hm4 (Or.inr (by decide))).trans e10, zs_eq hm4, (zs_ne hm4 (Or.inr (by decide))).trans e9, (zs_ne hm4 (Or.inr (by decide))).trans e7⟩
  have g270 : zw (zu_ex (zt_T n) 90 270 [(40, 190), (2, 0), (2, 0), (2, 0)] [] m1) (fun _ m' => zfr [(28, 9)] m1 m' ∧ m' 190 10 = pl ∧ m' 190 8 = (if (1 : Int) = 0 then 6 else 4) ∧ m' 190 9 = c ∧ m' 190 7 = p) := by
    refine zw_eq (zu_rega_at (zt_T n) (zm_90 n) (zdp_90 n) _ _ _ _ _ _ (zs_90_270 n _ _ m1)) ?_
    exact g275 1
  refine zw_eq (zu_rega_at (zt_T n) (zm_90 n) (zdp_90 n) _ _ _ _ _ _ (zs_90_198 n _ _ m1)) ?_
  rw [e9]
  unfold zXk
  refine zw_ite (fun q => by rw [if_pos q]; exact g270) (fun q => ?_)
  rw [if_neg q]
  refine zw_ite (fun q => by rw [if_pos q]; exact g270) (fun q => ?_)
  rw [if_neg q]
  refine zw_ite (fun q => by rw [if_pos q]; exact g270) (fun q => ?_)
  rw [if_neg q]
  refine zw_ite (fun q => by rw [if_pos q]; exact g270) (fun q => ?_)
  rw [if_neg q]
  refine zw_ite (fun q => by rw [if_pos q]; exact g270) (fun q => ?_)
  rw [if_neg q]
  refine zw_ite (fun q => by rw [if_pos q]; exact g270) (fun q => ?_)
  rw [if_neg q]
  refine zw_ite (fun q => by rw [if_pos q]; exact g270) (fun q => ?_)
  rw [if_neg q]
  refine zw_ite (fun q => by rw [if_pos q]; exact g275 0) (fun q => by rw [if_neg q]; exact g270)
theorem zXp_1 (x2 x3 p : Int) : zXp x2 x3 (p + 1) - p = zXp x2 x3 1 := by
  unfold zXp
  split
  · omega
  · split <;> omega
theorem zy_90 (n : Nat) {m : zu_m} (h0 : 0 ≤ m 190 7) (h1 : m 190 7 < m 190 6) (h7 : m 190 6 ≤ 700) : zw (zu_call (zt_T n) 90 [(40, 190)] m) (fun _ m' => zfr [(28, 8), (28, 9), (28, 10)] m m' ∧ m' 190 10 = m 190 10 ∧ zSgR (m 191 (m 190 7)) (if m 190 7 + 1 < m 190 6 then m 191 (m 190 7 + 1) else 0) (m' 190 8) (m' 190 9) (m' 190 7 - m 190 7)) := by
  generalize hd : (if m 190 7 + 1 < m 190 6 then m 191 (m 190 7 + 1) else 0) = d
  generalize hp : m 190 7 = p at *
  generalize hc : m 191 p = c
  refine zw_eq (zu_call_at (zt_T n) (zm_90 n) (zdp_90 n) _ _ _ _ _ rfl (zs_90_0 n _ _ m)) ?_
  have d7 : (zu_up m 190 9 (m 191 (m 190 7))) 190 7 = p := by rw [← hp]; exact zu_up_ne (Or.inr (by decide))
  rw [d7, hp, hc, zu_w32_id (z := p + 1) (by omega) (by omega)]
  refine zw_if ⟨by omega, by omega⟩ ?_
  generalize hm1 : zu_up (zu_up m 190 9 c) 190 7 (p + 1) = m1
  have hf1 : zfr [(28, 8), (28, 10)] m m1 := zfr_up hm1 (zfr_up rfl (zfr_rf _ _) zq_190 rfl) zq_190 rfl
  have e9 : m1 190 9 = c := (zs_ne hm1 (Or.inr (by decide))).trans zu_up_eq
  have e7 : m1 190 7 = p + 1 := zs_eq hm1
  have e6 : m1 190 6 = m 190 6 := (zs_ne hm1 (Or.inr (by decide))).trans (zu_up_ne (Or.inr (by decide)))
  have e10 : m1 190 10 = m 190 10 := (zs_ne hm1 (Or.inr (by decide))).trans (zu_up_ne (Or.inr (by decide)))
  have e191 : ∀ i, m1 191 i = m 191 i := fun i => (zs_ne hm1 (Or.inl (by decide))).trans (zu_up_ne (Or.inl (by decide)))
  rw [e9]
  have gc : (c = 60 ∨ c = 61 ∨ c = 62) → zw (zu_ex (zt_T n) 90 50 [(40, 190), (2, 0), (2, 0), (2, 0)] [] m1) (fun _ m' => zfr [(28, 8), (28, 9), (28, 10)] m m' ∧ m' 190 10 = m 190 10 ∧ zSgR c d (m' 190 8) (m' 190 9) (m' 190 7 - p)) := fun hcc => by
    refine zw_mono (zy_90_cmp n (m1 := m1) (c := c) (d := d) (p := p + 1) (pl := m 190 10) (by omega) (by omega) (by omega) e9 e7 e10 (by rw [e6, e191]; exact hd)) (fun _ m' hs => ?_)
    obtain ⟨gf, g1, g2, g3, g4⟩ := hs
    rw [g2, g3, g4, zXp_1]
    exact ⟨zfr_tr (zfr_tr (zfr_rf _ m) hf1 rfl) gf rfl, g1, zSgR_cmp hcc⟩
  refine zw_ite (fun q1 => gc (Or.inl q1)) (fun q1 => ?_)
  refine zw_ite (fun q2 => gc (Or.inr (Or.inr q2))) (fun q2 => ?_)
  refine zw_ite (fun q3 => ?_) (fun q3 => gc (Or.inr (Or.inl (Decidable.not_not.mp q3))))
  refine zw_mono (zy_90_oth n (m1 := m1) (c := c) (p := p + 1) (pl := m 190 10) e9 e7 e10) (fun _ m' hs => ?_)
  obtain ⟨gf, g1, g2, g3, g4⟩ := hs
  rw [g2, g3, g4, show p + 1 - p = 1 by omega]
  exact ⟨zfr_tr (zfr_tr (zfr_rf _ m) hf1 rfl) gf rfl, g1, zSgR_oth q1 q3 q2⟩

/-! THE READERS SIDE BY SIDE: what both share, small methods -/
def zST (m t : zu_m) : Prop := zi_I m ∧ zi_I t ∧ zR_NS t ∧ zR_WD t ∧ zR_W1 m ∧ zR_W2 t ∧ m 4 = t 191 ∧ m 45 2 = t 190 6
/-- the reference has the token that stands at the class's place -/
def zLAG (m t : zu_m) : Prop := zTR (t 191) (t 190 6) (m 45 3) (t 190 8) (t 190 9) (t 190 10) (t 190 7)
def zSYN (m t : zu_m) : Prop := m 45 3 = t 190 7 ∧ m 45 6 = t 190 10 ∧ zKV (m 45 4) (m 45 5) (t 190 8) (t 190 9) ∧ m 45 6 ≤ m 45 3 ∧ ((m 45 4 = 0 ∧ m 45 2 ≤ m 45 6) ∨ (m 45 4 ≠ 0 ∧ m 45 6 < m 45 2 ∧ m 45 6 < m 45 3))
def zFLT (m t : zu_m) : Prop := m 5 9 = t 190 4 ∧ m 5 9 ≠ 0 ∧ m 5 10 = t 190 5
theorem zST_l {W : List (Nat × Nat)} {m m' t : zu_m} (h : zST m t) (hI : zi_I m') (hf : zfr W m m') (hd : zdis W [(29, 0), (9, 3), (46, 0)] = true) : zST m' t := by
  have e := zdis_fr hf hd
  obtain ⟨a1, a2, a3, a4, a5, a6, a7, a8⟩ := h
  have e4 : m' 4 = m 4 := funext (fun i => e 4 i (by rw [zq_4]; rfl))
  have e46 : ∀ i, m' 46 i = m 46 i := fun i => e 46 i (by rw [zq_46]; rfl)
  exact ⟨hI, a2, a3, a4, fun i i0 i1 => by rw [e46]; exact a5 i i0 i1, a6, e4.trans a7, (e 45 2 (by rw [zq_45]; rfl)).trans a8⟩
theorem zST_r {W : List (Nat × Nat)} {m t t' : zu_m} (h : zST m t) (hI : zi_I t') (hf : zfr W t t') (hd : zdis W [(100, 0), (28, 7), (28, 8), (101, 0)] = true) : zST m t' := by
  have e := zdis_fr hf hd
  obtain ⟨a1, a2, a3, a4, a5, a6, a7, a8⟩ := h
  have e191 : t' 191 = t 191 := funext (fun i => e 191 i (by rw [zq_191]; rfl))
  have e192 : ∀ i, t' 192 i = t 192 i := fun i => e 192 i (by rw [zq_192]; rfl)
  refine ⟨a1, hI, ?_, ?_, a5, fun i i0 i1 => by rw [e192]; exact a6 i i0 i1, a7.trans e191.symm, a8.trans (e 190 6 (by rw [zq_190]; rfl)).symm⟩
  · refine zR_NS_of (a := 190) zq_190 ?_
    rw [e 190 7 (by rw [zq_190]; rfl), e 190 6 (by rw [zq_190]; rfl)]
    exact a3 190 zq_190
  · refine ⟨by rw [e192]; exact a4.1, ?_⟩
    rw [znb_fr (m := t) (m' := t') (fun p => e192 p)]
    exact a4.2
def zWA : List (Nat × Nat) := [(9, 4), (9, 5), (9, 6), (9, 7)]
def zWB : List (Nat × Nat) := [(28, 8), (28, 9), (28, 10), (28, 11)]
/-- the class reads on: both stand at the same token -/
theorem zp_adv (n : Nat) {m t : zu_m} (h : zST m t) (hl : zLAG m t) : zw (zu_call (zt_T n) 18 [(22, 45)] m) (fun _ m' => zST m' t ∧ zfr zWA m m' ∧ zSYN m' t ∧ m 45 3 ≤ m' 45 6) := by
  have h0 := h
  obtain ⟨a1, a2, a3, a4, a5, a6, a7, a8⟩ := h
  have b2 := zi_rd a1 zq_45 zb_9_2
  have b3 := zi_rd a1 zq_45 zb_9_3
  refine zw_mono (zw_and (zk_18 n a1 zq_45) (zy_18 n (m := m) b3 b2.2)) (fun _ m' hs => ?_)
  obtain ⟨⟨hI, hf, -⟩, hC⟩ := hs
  unfold zLAG at hl
  rw [← a7, ← a8] at hl
  obtain ⟨r1, r2, r3, r4, r5, r6⟩ := zTok_rel a5 hC hl
  have e2 : m' 45 2 = m 45 2 := zfr_ap hf zq_45 rfl
  refine ⟨zST_l h0 hI hf rfl, hf, ⟨r2, r1, r3, r5, ?_⟩, r4⟩
  rw [e2]
  exact r6
/-- the reference reads on: it has the token that stands at the class's place -/
theorem zp_tkn (n : Nat) {m t : zu_m} (h : zST m t) (h3 : m 45 3 = t 190 7) : zw (zu_call (zt_T n) 89 [(40, 190)] t) (fun _ t' => zST m t' ∧ zfr zWB t t' ∧ zLAG m t') := by
  obtain ⟨a1, a2, a3, a4, a5, a6, a7, a8⟩ := h
  have c6 := zi_rd a2 zq_190 zb_28_6
  have c7 := zi_rd a2 zq_190 zb_28_7
  have hns := a3 190 zq_190
  refine zw_mono (zw_and (zk_89 n a2 zq_190 a3 a4) (zy_89 n (m := t) ⟨c7.1, hns⟩ c6.2 a6)) (fun _ t' hs => ?_)
  obtain ⟨⟨hI, hf, hNS, -, hWD, -⟩, -, hR⟩ := hs
  have e191 : t' 191 = t 191 := funext (fun i => zfr_ap hf zq_191 rfl)
  have e192 : ∀ i, t' 192 i = t 192 i := fun i => zfr_ap hf zq_192 rfl
  have e6 : t' 190 6 = t 190 6 := zfr_ap hf zq_190 rfl
  refine ⟨⟨a1, hI, hNS, hWD, a5, fun i i0 i1 => by rw [e192]; exact a6 i i0 i1, a7.trans e191.symm, a8.trans e6.symm⟩, hf, ?_⟩
  unfold zLAG
  rw [e191, e6, h3]
  exact hR
/-! small methods as equations -/
def zFL (m : zu_m) (f : Int) : zu_m := zu_up (zu_up m 5 9 f) 5 10 (m 45 6)
def zFR (t : zu_m) (f : Int) : zu_m := zu_up (zu_up t 190 4 f) 190 5 (t 190 10)
theorem zu_b0 (x : Option zu_R) : zu_b 0 x = x := if_pos (Or.inl rfl)
theorem zu_b1 (x : Option zu_R) : zu_b 1 x = x := if_pos (Or.inr rfl)
theorem zu_bds (v : Int) (m : zu_m) (f : Int → zu_m → Option zu_R) : zu_bd (some (v, m)) f = f v m := rfl
theorem zc_257 (n : Nat) (f : Int) (m : zu_m) : zu_call (zt_T n) 257 [(7, 5), (0, f)] m = some (0, zFL m f) := by
  rw [zu_call_at (zt_T n) (zm_257 n) (zdp_257 n) _ _ _ _ _ rfl (zr_257_0 n _ _ 5 f m), zu_b0, zu_up_ne (Or.inl (by decide))]
  rfl
theorem zc_85 (n : Nat) (f : Int) (t : zu_m) : zu_call (zt_T n) 85 [(40, 190), (0, f)] t = some (0, zFR t f) := by
  rw [zu_call_at (zt_T n) (zm_85 n) (zdp_85 n) _ _ _ _ _ rfl (zr_85_0 n _ _ 190 f t), zu_b0, zu_up_ne (σ := t) (Or.inr (by decide))]
  rfl
theorem zc_83 (n : Nat) (a lo hi : Int) (t : zu_m) : zu_call (zt_T n) 83 [(0, a), (0, lo), (0, hi)] t = some (if lo ≤ a ∧ a ≤ hi then 1 else 0, t) := by
  rw [zu_call_at (zt_T n) (zm_83 n) (zdp_83 n) _ _ _ _ _ rfl (zr_83_0 n _ _ a lo hi t), zu_b0, zu_b1]
  by_cases h1 : a < lo
  · rw [if_pos h1, if_neg (by omega)]
  · rw [if_neg h1]
    by_cases h2 : hi < a
    · rw [if_pos h2, if_neg (by omega)]
    · rw [if_neg h2, if_pos (by omega)]
theorem zc_278 (n : Nat) (s : Int) (m : zu_m) : zu_call (zt_T n) 278 [(22, 45), (0, s)] m = some (if m 45 4 = 4 ∧ m 45 5 = s then 1 else 0, m) := by
  rw [zu_call_at (zt_T n) (zm_278 n) (zdp_278 n) _ _ _ _ _ rfl (zr_278_0 n _ _ 45 s m), zu_b0, zu_b1]
  by_cases h1 : m 45 4 = 4
  · rw [if_neg (by omega)]
    by_cases h2 : m 45 5 = s
    · rw [if_neg (by omega), if_pos ⟨h1, h2⟩]
    · rw [if_pos h2, if_neg (by omega)]
  · rw [if_pos h1, if_neg (by omega)]
theorem zc_279 (n : Nat) {a k : Int} (m : zu_m) (hk : zu_w32 (a + k) = a + k) : zu_call (zt_T n) 279 [(22, 45), (0, a), (0, k)] m = some (if m 45 4 = 1 ∧ a ≤ m 45 5 ∧ m 45 5 < a + k then 1 else 0, m) := by
  rw [zu_call_at (zt_T n) (zm_279 n) (zdp_279 n) _ _ _ _ _ rfl (zr_279_0 n _ _ 45 a k m), zu_b0, zu_b1, hk]
  by_cases h1 : m 45 4 = 1
  · rw [if_neg (by omega)]
    by_cases h2 : m 45 5 < a
    · rw [if_pos h2, if_neg (by omega)]
    · rw [if_neg h2]
      by_cases h3 : a + k ≤ m 45 5
      · rw [if_pos h3, if_neg (by omega)]
      · rw [if_neg h3, if_pos (by omega)]
  · rw [if_pos h1, if_neg (by omega)]
theorem zc_92 (n : Nat) (k : Int) (t : zu_m) : zu_call (zt_T n) 92 [(40, 190), (0, k)] t = some (if t 190 8 = 1 ∧ t 190 9 = k then 1 else 0, t) := by
  rw [zu_call_at (zt_T n) (zm_92 n) (zdp_92 n) _ _ _ _ _ rfl (zr_92_0 n _ _ 190 k t), zu_b0, zu_b1]
  by_cases h1 : t 190 8 = 1
  · rw [if_neg (by omega)]
    by_cases h2 : t 190 9 = k
    · rw [if_neg (by omega), if_pos ⟨h1, h2⟩]
    · rw [if_pos h2, if_neg (by omega)]
  · rw [if_pos h1, if_neg (by omega)]
theorem zc_93 (n : Nat) (k : Int) (t : zu_m) : zu_call (zt_T n) 93 [(40, 190), (0, k)] t = some (if t 190 8 = 4 ∧ t 190 9 = k then 1 else 0, t) := by
  rw [zu_call_at (zt_T n) (zm_93 n) (zdp_93 n) _ _ _ _ _ rfl (zr_93_0 n _ _ 190 k t), zu_b0, zu_b1]
  by_cases h1 : t 190 8 = 4
  · rw [if_neg (by omega)]
    by_cases h2 : t 190 9 = k
    · rw [if_neg (by omega), if_pos ⟨h1, h2⟩]
    · rw [if_pos h2, if_neg (by omega)]
  · rw [if_pos h1, if_neg (by omega)]
theorem zFLT_of {m t : zu_m} {f : Int} (hf : f ≠ 0) (h : m 45 6 = t 190 10) : zFLT (zFL m f) (zFR t f) := by
  have e1 : zFL m f 5 9 = f := by unfold zFL; simp [zu_up_app]
  have e2 : zFL m f 5 10 = m 45 6 := by unfold zFL; simp [zu_up_app]
  have e3 : zFR t f 190 4 = f := by unfold zFR; simp [zu_up_app]
  have e4 : zFR t f 190 5 = t 190 10 := by unfold zFR; simp [zu_up_app]
  exact ⟨by rw [e1, e3], by rw [e1]; exact hf, by rw [e2, e4]; exact h⟩
/-- what comes of a piece of reading -/
def zPO (WA WB : List (Nat × Nat)) (m t : zu_m) (G : zu_m → zu_m → Prop) (v : Int) (m' : zu_m) (w : Int) (t' : zu_m) : Prop := (v = 0 ∧ w = 0 ∧ zFLT m' t') ∨ (v = 1 ∧ w = 1 ∧ zST m' t' ∧ zLAG m' t' ∧ zfr WA m m' ∧ zfr WB t t' ∧ m 45 3 ≤ m' 45 3 ∧ G m' t')
def zWS : List (Nat × Nat) := [(3, 8), (9, 4), (9, 5), (9, 6), (9, 7)]
def zWT : List (Nat × Nat) := [(28, 8), (28, 9), (28, 10), (28, 11), (28, 12)]
theorem zc_94a (n : Nat) {lo hi : Int} {t : zu_m} (h : t 190 8 ≠ 3) : zu_call (zt_T n) 94 [(40, 190), (0, lo), (0, hi)] t = some (0, zFR t 1) := by
  rw [zu_call_at (zt_T n) (zm_94 n) (zdp_94 n) _ _ _ _ _ rfl (zr_94_0 n _ _ 190 lo hi t), if_neg h, zc_85, zu_bds, zu_b0]
theorem zc_94b (n : Nat) {lo hi : Int} {t : zu_m} (h : t 190 8 = 3) (h2 : ¬(lo ≤ t 190 9 ∧ t 190 9 ≤ hi)) : zu_call (zt_T n) 94 [(40, 190), (0, lo), (0, hi)] t = some (0, zFR t 2) := by
  rw [zu_call_at (zt_T n) (zm_94 n) (zdp_94 n) _ _ _ _ _ rfl (zr_94_0 n _ _ 190 lo hi t), if_pos h, zc_83, zu_bds, if_neg h2, if_neg (by decide), zc_85, zu_bds, zu_b0]
theorem zc_94c (n : Nat) {lo hi : Int} {t : zu_m} (h : t 190 8 = 3) (h2 : lo ≤ t 190 9 ∧ t 190 9 ≤ hi) : zu_call (zt_T n) 94 [(40, 190), (0, lo), (0, hi)] t = zu_bd (zu_call (zt_T n) 89 [(40, 190)] (zu_up t 190 11 (t 190 9))) (fun _ s => some (1, s)) := by
  rw [zu_call_at (zt_T n) (zm_94 n) (zdp_94 n) _ _ _ _ _ rfl (zr_94_0 n _ _ 190 lo hi t), if_pos h, zc_83, zu_bds, if_pos h2, if_pos (by decide)]
  congr 1
/-- readNumber and number -/
theorem zp_num (n : Nat) {m t : zu_m} {lo hi : Int} (h : zST m t) (hl : zLAG m t) (h0 : 0 ≤ lo) (h1 : hi ≤ 99999) : zw (zu_call (zt_T n) 260 [(7, 5), (0, lo), (0, hi)] m) (fun v m' => zw (zu_call (zt_T n) 94 [(40, 190), (0, lo), (0, hi)] t) (fun w t' => zPO zWS zWT m t (fun m' t' => lo ≤ m' 5 7 ∧ m' 5 7 ≤ hi ∧ m' 5 7 = t' 190 11 ∧ m' 45 6 = t 190 10) v m' w t')) := by
  refine zw_eq (zu_call_at (zt_T n) (zm_260 n) (zdp_260 n) _ _ _ _ _ rfl (zr_260_0 n _ _ 5 lo hi m)) ?_
  refine zw_bd (zw_mono (zp_adv n h hl) (fun _ m1 hs => ?_))
  obtain ⟨hST, hf, ⟨s1, s2, s3, s4, -⟩, hpos⟩ := hs
  unfold zKV at s3
  refine zw_ite (fun hk => ?_) (fun hk => ?_)
  · have k8 : t 190 8 = 3 := by omega
    have kv : 0 ≤ m1 45 5 ∧ ((m1 45 5 = t 190 9 ∧ m1 45 5 ≤ 99999) ∨ (99999 < m1 45 5 ∧ 99999 < t 190 9)) := by omega
    generalize hm2 : zu_up m1 5 7 (m1 45 5) = m2
    have e7 : m2 5 7 = m1 45 5 := zs_eq hm2
    have e6 : m2 45 6 = m1 45 6 := zs_ne hm2 (Or.inl (by decide))
    have e3 : m2 45 3 = m1 45 3 := zs_ne hm2 (Or.inl (by decide))
    have bnd := zi_rd hST.1 zq_45 zb_9_5
    have hI2 := zi_up hm2 hST.1 zq_5 zb_3_7 (by omega) (by omega)
    have hf2 : zfr [(3, 8)] m1 m2 := zfr_up hm2 (zfr_rf _ _) zq_5 rfl
    have hST2 := zST_l hST hI2 hf2 rfl
    have bad : ¬(lo ≤ t 190 9 ∧ t 190 9 ≤ hi) → zw (zu_bd (zu_call (zt_T n) 257 [(7, 5), (0, 2)] m2) (fun v53 s53 => (if v53 = 0 then (zu_b 0 (some (0, s53))) else (zu_b 1 (some (1, s53)))))) (fun v m' => zw (zu_call (zt_T n) 94 [(40, 190), (0, lo), (0, hi)] t) (fun w t' => zPO zWS zWT m t (fun m' t' => lo ≤ m' 5 7 ∧ m' 5 7 ≤ hi ∧ m' 5 7 = t' 190 11 ∧ m' 45 6 = t 190 10) v m' w t')) := fun hb => by
      rw [zc_257, zu_bds, if_pos rfl, zu_b0]
      refine zw_some ?_
      rw [zc_94b n k8 hb]
      exact zw_some (Or.inl ⟨rfl, rfl, zFLT_of (by decide) (e6.trans s2)⟩)
    rw [e7]
    refine zw_ite (fun ha => bad (by omega)) (fun ha => ?_)
    refine zw_ite (fun hb => ?_) (fun hb => bad (by omega))
    rw [zu_b1]
    refine zw_some ?_
    rw [zc_94c n k8 (by omega)]
    generalize ht1 : zu_up t 190 11 (t 190 9) = t1
    have g7 : t1 190 7 = t 190 7 := zs_ne ht1 (Or.inr (by decide))
    have g11 : t1 190 11 = t 190 9 := zs_eq ht1
    have bnd2 := zi_rd h.2.1 zq_190 zb_28_9
    have hIt := zi_up ht1 h.2.1 zq_190 zb_28_11 (by omega) (by omega)
    have hft : zfr [(28, 12)] t t1 := zfr_up ht1 (zfr_rf _ _) zq_190 rfl
    have hST3 := zST_r hST2 hIt hft rfl
    refine zw_bd (zw_mono (zp_tkn n hST3 (by rw [e3, g7]; exact s1)) (fun _ t2 hs => ?_))
    obtain ⟨q1, q2, q3⟩ := hs
    have g11b : t2 190 11 = t1 190 11 := zfr_ap q2 zq_190 rfl
    refine zw_some (Or.inr ⟨rfl, rfl, q1, q3, ?_, ?_, by omega, ?_⟩)
    · exact zfr_tr (zfr_tr (zfr_rf zWS m) hf rfl) hf2 rfl
    · exact zfr_tr (zfr_tr (zfr_rf zWT t) hft rfl) q2 rfl
    · refine ⟨by omega, by omega, by omega, by rw [e6]; exact s2⟩
  · have k8 : t 190 8 ≠ 3 := by omega
    rw [zc_257, zu_bds, zu_b0]
    refine zw_some ?_
    rw [zc_94a n k8]
    exact zw_some (Or.inl ⟨rfl, rfl, zFLT_of (by decide) s2⟩)

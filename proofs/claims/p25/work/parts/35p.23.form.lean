/-! small methods of the formulas as equations -/
theorem zc_204a (n : Nat) {m : zu_m} (h0 : 0 ≤ m 10 5) (h : m 10 5 < 64) : zu_call (zt_T n) 204 [(24, 47)] m = some (1, zu_up m 10 5 (m 10 5 + 1)) := by
  rw [zu_call_at (zt_T n) (zm_204 n) (zdp_204 n) _ _ _ _ _ rfl (zr_204_0 n _ _ 47 m), if_pos h, zu_b1, zu_w32_id (z := m 10 5 + 1) (by omega) (by omega)]
theorem zc_204b (n : Nat) {m : zu_m} (h : ¬ m 10 5 < 64) : zu_call (zt_T n) 204 [(24, 47)] m = some (0, m) := by
  rw [zu_call_at (zt_T n) (zm_204 n) (zdp_204 n) _ _ _ _ _ rfl (zr_204_0 n _ _ 47 m), if_neg h, zu_b0]
theorem zc_205 (n : Nat) {m : zu_m} {k : Int} (h0 : 0 ≤ m 47 3) (h : m 47 3 < 72) : zu_call (zt_T n) 205 [(24, 47), (0, k)] m = some (0, zu_up (zu_up m 48 (m 47 3) k) 47 3 (m 47 3 + 1)) := by
  rw [zu_call_at (zt_T n) (zm_205 n) (zdp_205 n) _ _ _ _ _ rfl (zr_205_0 n _ _ 47 k m), if_pos h, if_pos ⟨h0, h⟩, zu_up_ne (σ := m) (Or.inl (show (47 : Int) ≠ 48 by decide)), zu_w32_id (z := m 47 3 + 1) (by omega) (by omega)]
theorem zc_113a (n : Nat) {t : zu_m} (h0 : 0 ≤ t 190 48) (h : t 190 48 < 64) : zu_call (zt_T n) 113 [(40, 190)] t = some (1, zu_up t 190 48 (t 190 48 + 1)) := by
  rw [zu_call_at (zt_T n) (zm_113 n) (zdp_113 n) _ _ _ _ _ rfl (zr_113_0 n _ _ 190 t), if_pos (show t 190 48 ≠ 64 by omega), zu_b1, zu_w32_id (z := t 190 48 + 1) (by omega) (by omega)]
theorem zc_113b (n : Nat) {t : zu_m} (h : t 190 48 = 64) : zu_call (zt_T n) 113 [(40, 190)] t = some (0, zFR t 2) := by
  rw [zu_call_at (zt_T n) (zm_113 n) (zdp_113 n) _ _ _ _ _ rfl (zr_113_0 n _ _ 190 t), if_neg (fun q => q h), zc_85, zu_bds, zu_b0]
theorem zc_114 (n : Nat) {t : zu_m} {k : Int} (h0 : 0 ≤ t 190 45) (h : t 190 45 < 96) : zu_call (zt_T n) 114 [(40, 190), (0, k)] t = some (0, zu_up (zu_up t 211 (t 190 45) k) 190 45 (t 190 45 + 1)) := by
  rw [zu_call_at (zt_T n) (zm_114 n) (zdp_114 n) _ _ _ _ _ rfl (zr_114_0 n _ _ 190 k t), if_pos ⟨h0, h⟩, zu_up_ne (σ := t) (Or.inl (show (190 : Int) ≠ 211 by decide)), zu_w32_id (z := t 190 45 + 1) (by omega) (by omega)]
theorem zc_115 (n : Nat) {t : zu_m} (hb : -2147483648 ≤ t 190 9 ∧ t 190 9 ≤ 2147483647) : zu_call (zt_T n) 115 [(40, 190)] t = some (if t 190 8 = 1 ∧ 26 ≤ t 190 9 then t 190 9 - 26 else -1, t) := by
  rw [zu_call_at (zt_T n) (zm_115 n) (zdp_115 n) _ _ _ _ _ rfl (zr_115_0 n _ _ 190 t)]
  by_cases h1 : t 190 8 = 1
  · rw [if_neg (fun q => q h1)]
    by_cases h2 : t 190 9 < 26
    · rw [if_pos h2, if_neg (by omega)]
    · rw [if_neg h2, if_pos ⟨h1, by omega⟩, zu_w32_id (z := t 190 9 - 26) (by omega) (by omega)]
  · rw [if_pos h1, if_neg (fun q => h1 q.1)]
/-! what the class does with a part of a formula -/
/-- a leaf -/
def zPl (k v : Int) : Prop := (k = 3 ∧ v ≤ 9999) ∨ (k = 1 ∧ 26 ≤ v ∧ v < 33)
theorem zz_200 (n : Nat) {m : zu_m} {a b : Int} (h0 : 0 ≤ m 10 5) : zl (zu_call (zt_T n) 200 [(24, 47), (0, a), (0, b)] m) (fun v m' => (64 ≤ m 10 5 ∧ v = 2) ∨ (m 10 5 < 64 ∧ v = 0 ∧ m' 10 5 = m 10 5 + 1 ∧ m' 47 6 = 0 ∧ zfr [(5, 6), (5, 7), (33, 0), (34, 0), (10, 7)] m m')) := by
  refine zl_eq (zu_call_at (zt_T n) (zm_200 n) (zdp_200 n) _ _ _ _ _ rfl (zr_200_0 n _ _ 47 a b m)) ?_
  by_cases h : m 10 5 < 64
  · rw [zc_204a n h0 h, zu_bds, if_pos (show (1 : Int) ≠ 0 by decide)]
    generalize hm1 : zu_up m 10 5 (m 10 5 + 1) = m1
    have hf1 : zfr [(5, 6)] m m1 := zfr_up hm1 (zfr_rf _ _) zq_10 rfl
    refine zl_bd (zl_mono (zz_207 n) (fun _ m2 hf2 => ?_))
    rw [zu_b0]
    generalize hm3 : zu_up m2 47 6 0 = m3
    exact zl_some (Or.inr ⟨h, rfl, ((zs_ne hm3 (Or.inl (by decide))).trans (zfr_ap hf2 zq_10 rfl)).trans (zs_eq hm1), zs_eq hm3, zfr_up hm3 (zfr_tr (zfr_tr (zfr_rf _ m) hf1 rfl) hf2 rfl) zq_47 rfl⟩)
  · rw [zc_204b n h, zu_bds, if_neg (show ¬ (0 : Int) ≠ 0 by decide)]
    exact zl_some (Or.inl ⟨by omega, rfl⟩)
theorem zc_279q (n : Nat) {a k : Int} (m : zu_m) (h0 : 0 ≤ a) (h1 : a ≤ 100) (h2 : 0 ≤ k) (h3 : k ≤ 100) : zu_call (zt_T n) 279 [(22, 45), (0, a), (0, k)] m = some (if m 45 4 = 1 ∧ a ≤ m 45 5 ∧ m 45 5 < a + k then 1 else 0, m) := zc_279 n m (zu_w32_id (by omega) (by omega))
theorem zz_199_leaf (n : Nat) {m : zu_m} (hk : zPl (m 45 4) (m 45 5)) (h0 : 0 ≤ m 10 5) : zl (zu_call (zt_T n) 199 [(24, 47)] m) (fun v m' => (64 ≤ m 10 5 ∧ v = 2) ∨ (m 10 5 < 64 ∧ v = 0 ∧ m' 10 5 = m 10 5 + 1 ∧ m' 47 6 = 0 ∧ zfr [(5, 6), (5, 7), (33, 0), (34, 0), (10, 7)] m m')) := by
  refine zl_eq (zu_call_at (zt_T n) (zm_199 n) (zdp_199 n) _ _ _ _ _ rfl (zr_199_0 n _ _ 47 m)) ?_
  rcases hk with ⟨k1, k2⟩ | ⟨k1, k2, k3⟩
  · rw [if_neg (fun q => q k1), if_pos k2]
    exact zl_bd (zl_mono (zz_200 n h0) (fun v m1 hs => zl_some hs))
  · rw [if_pos (show m 45 4 ≠ 3 by omega), zc_279q n m (by decide) (by decide) (by decide) (by decide), zu_bds, if_pos (show m 45 4 = 1 ∧ 26 ≤ m 45 5 ∧ m 45 5 < 26 + 7 by omega), if_neg (show ¬ (1 : Int) = 0 by decide)]
    exact zl_bd (zl_mono (zz_200 n h0) (fun v m1 hs => zl_some hs))
theorem zz_199_over (n : Nat) {m : zu_m} (hk : m 45 4 = 3 ∧ 9999 < m 45 5) : zl (zu_call (zt_T n) 199 [(24, 47)] m) (fun v _ => v = 2) := by
  refine zl_eq (zu_call_at (zt_T n) (zm_199 n) (zdp_199 n) _ _ _ _ _ rfl (zr_199_0 n _ _ 47 m)) ?_
  rw [if_neg (fun q => q hk.1), if_neg (show ¬ m 45 5 ≤ 9999 by omega)]
  exact zl_some rfl
theorem zz_199_open (n : Nat) {m : zu_m} (hk : m 45 4 = 4 ∧ m 45 5 = 1) (h0 : 0 ≤ m 47 4) (hw : 0 ≤ m 47 3 ∧ (m 47 4 < 8 → m 47 3 < 72)) : zl (zu_call (zt_T n) 199 [(24, 47)] m) (fun v m' => (8 ≤ m 47 4 ∧ v = 2) ∨ (m 47 4 < 8 ∧ v = 0 ∧ m' 47 4 = m 47 4 + 1 ∧ m' 49 (m 47 4 + 1) = 0 ∧ (∀ i, i ≠ m 47 4 + 1 → m' 49 i = m 49 i) ∧ m' 47 7 = 1 ∧ m' 48 (m 47 3) = 1 ∧ (∀ i, i ≠ m 47 3 → m' 48 i = m 48 i) ∧ m' 47 3 = m 47 3 + 1 ∧ zfr [(10, 5), (48, 0), (10, 8), (47, 0), (10, 4)] m m')) := by
  refine zl_eq (zu_call_at (zt_T n) (zm_199 n) (zdp_199 n) _ _ _ _ _ rfl (zr_199_0 n _ _ 47 m)) ?_
  rw [if_pos (show m 45 4 ≠ 3 by omega), zc_279q n m (by decide) (by decide) (by decide) (by decide), zu_bds, if_neg (show ¬ (m 45 4 = 1 ∧ 26 ≤ m 45 5 ∧ m 45 5 < 26 + 7) by omega), if_pos (show (0 : Int) = 0 from rfl), zc_278, zu_bds, if_pos hk, if_neg (show ¬ (1 : Int) = 0 by decide)]
  refine zl_bd (zl_eq (zu_call_at (zt_T n) (zm_201 n) (zdp_201 n) _ _ _ _ _ rfl (zr_201_0 n _ _ 47 m)) ?_)
  refine zl_ite (fun h => ?_) (fun h => zl_some (zl_some (Or.inl ⟨by omega, rfl⟩)))
  rw [zu_b0, zu_w32_id (z := m 47 4 + 1) (by omega) (by omega)]
  generalize hm1 : zu_up m 47 4 (m 47 4 + 1) = m1
  have e4 : m1 47 4 = m 47 4 + 1 := zs_eq hm1
  rw [e4]
  refine zl_if (fun _ => ?_)
  rw [zu_b1]
  generalize hm2 : zu_up m1 49 (m 47 4 + 1) 0 = m2
  generalize hm3 : zu_up m2 47 7 1 = m3
  have e3 : m3 47 3 = m 47 3 := ((zs_ne hm3 (Or.inr (by decide))).trans (zs_ne hm2 (Or.inl (by decide)))).trans (zs_ne hm1 (Or.inr (by decide)))
  rw [zc_205 n (by omega) (by omega), zu_bds, e3]
  generalize hm4 : zu_up m3 48 (m 47 3) 1 = m4
  generalize hm5 : zu_up m4 47 3 (m 47 3 + 1) = m5
  refine zl_some (zl_some (Or.inr ⟨h, rfl, ?_, ?_, fun i hi => ?_, ?_, ?_, fun i hi => ?_, zs_eq hm5, ?_⟩))
  · exact ((((zs_ne hm5 (Or.inr (by decide))).trans (zs_ne hm4 (Or.inl (by decide)))).trans (zs_ne hm3 (Or.inr (by decide)))).trans (zs_ne hm2 (Or.inl (by decide)))).trans e4
  · exact (((zs_ne hm5 (Or.inl (by decide))).trans (zs_ne hm4 (Or.inl (by decide)))).trans (zs_ne hm3 (Or.inl (by decide)))).trans (zs_eq hm2)
  · exact ((((zs_ne hm5 (Or.inl (by decide))).trans (zs_ne hm4 (Or.inl (by decide)))).trans (zs_ne hm3 (Or.inl (by decide)))).trans (zs_ne hm2 (Or.inr hi))).trans (zs_ne hm1 (Or.inl (by decide)))
  · exact ((zs_ne hm5 (Or.inr (by decide))).trans (zs_ne hm4 (Or.inl (by decide)))).trans (zs_eq hm3)
  · exact (zs_ne hm5 (Or.inl (by decide))).trans (zs_eq hm4)
  · exact ((((zs_ne hm5 (Or.inl (by decide))).trans (zs_ne hm4 (Or.inr hi))).trans (zs_ne hm3 (Or.inl (by decide)))).trans (zs_ne hm2 (Or.inl (by decide)))).trans (zs_ne hm1 (Or.inl (by decide)))
  · exact zfr_up hm5 (zfr_up hm4 (zfr_up hm3 (zfr_up hm2 (zfr_up hm1 (zfr_rf _ _) zq_47 rfl) zq_49 rfl) zq_47 rfl) zq_48 rfl) zq_47 rfl
theorem zz_199_not (n : Nat) {m : zu_m} (hk : m 45 4 = 1 ∧ m 45 5 = 25) (hd : m 47 7 ≠ 0) (h0 : 0 ≤ m 10 5) (hw : 0 ≤ m 47 3 ∧ (m 10 5 < 64 → m 47 3 < 72)) : zl (zu_call (zt_T n) 199 [(24, 47)] m) (fun v m' => (64 ≤ m 10 5 ∧ v = 2) ∨ (m 10 5 < 64 ∧ v = 0 ∧ m' 10 5 = m 10 5 + 1 ∧ m' 48 (m 47 3) = 15 ∧ (∀ i, i ≠ m 47 3 → m' 48 i = m 48 i) ∧ m' 47 3 = m 47 3 + 1 ∧ zfr [(5, 6), (47, 0), (10, 4)] m m')) := by
  refine zl_eq (zu_call_at (zt_T n) (zm_199 n) (zdp_199 n) _ _ _ _ _ rfl (zr_199_0 n _ _ 47 m)) ?_
  rw [if_pos (show m 45 4 ≠ 3 by omega), zc_279q n m (by decide) (by decide) (by decide) (by decide), zu_bds, if_neg (show ¬ (m 45 4 = 1 ∧ 26 ≤ m 45 5 ∧ m 45 5 < 26 + 7) by omega), if_pos (show (0 : Int) = 0 from rfl), zc_278, zu_bds, if_neg (show ¬ (m 45 4 = 4 ∧ m 45 5 = 1) by omega), if_pos (show (0 : Int) = 0 from rfl), zc_279q n m (by decide) (by decide) (by decide) (by decide), zu_bds, if_pos (show m 45 4 = 1 ∧ 25 ≤ m 45 5 ∧ m 45 5 < 25 + 1 by omega), if_neg (show ¬ (1 : Int) = 0 by decide), if_neg hd]
  by_cases h : m 10 5 < 64
  · rw [zc_204a n h0 h, zu_bds, if_neg (show ¬ (1 : Int) = 0 by decide)]
    generalize hm1 : zu_up m 10 5 (m 10 5 + 1) = m1
    have e3 : m1 47 3 = m 47 3 := zs_ne hm1 (Or.inl (by decide))
    rw [zc_205 n (by omega) (by omega), zu_bds, e3]
    generalize hm4 : zu_up m1 48 (m 47 3) 15 = m4
    generalize hm5 : zu_up m4 47 3 (m 47 3 + 1) = m5
    refine zl_some (Or.inr ⟨h, rfl, ?_, ?_, fun i hi => ?_, zs_eq hm5, ?_⟩)
    · exact ((zs_ne hm5 (Or.inl (by decide))).trans (zs_ne hm4 (Or.inl (by decide)))).trans (zs_eq hm1)
    · exact (zs_ne hm5 (Or.inl (by decide))).trans (zs_eq hm4)
    · exact ((zs_ne hm5 (Or.inl (by decide))).trans (zs_ne hm4 (Or.inr hi))).trans (zs_ne hm1 (Or.inl (by decide)))
    · exact zfr_up hm5 (zfr_up hm4 (zfr_up hm1 (zfr_rf _ _) zq_10 rfl) zq_48 rfl) zq_47 rfl
  · rw [zc_204b n h, zu_bds, if_pos (show (0 : Int) = 0 from rfl)]
    exact zl_some (Or.inl ⟨by omega, rfl⟩)
theorem zz_199_else (n : Nat) {m : zu_m} (h1 : m 45 4 ≠ 3) (h2 : ¬ (m 45 4 = 1 ∧ 26 ≤ m 45 5 ∧ m 45 5 < 33)) (h3 : ¬ (m 45 4 = 4 ∧ m 45 5 = 1)) (h4 : ¬ (m 45 4 = 1 ∧ m 45 5 = 25 ∧ m 47 7 ≠ 0)) : zl (zu_call (zt_T n) 199 [(24, 47)] m) (fun v _ => v = 1) := by
  refine zl_eq (zu_call_at (zt_T n) (zm_199 n) (zdp_199 n) _ _ _ _ _ rfl (zr_199_0 n _ _ 47 m)) ?_
  rw [if_pos h1, zc_279q n m (by decide) (by decide) (by decide) (by decide), zu_bds, if_neg (show ¬ (m 45 4 = 1 ∧ 26 ≤ m 45 5 ∧ m 45 5 < 26 + 7) by omega), if_pos (show (0 : Int) = 0 from rfl), zc_278, zu_bds, if_neg h3, if_pos (show (0 : Int) = 0 from rfl), zc_279q n m (by decide) (by decide) (by decide) (by decide), zu_bds]
  by_cases hw : m 45 4 = 1 ∧ 25 ≤ m 45 5 ∧ m 45 5 < 25 + 1
  · rw [if_pos hw, if_neg (show ¬ (1 : Int) = 0 by decide), if_pos (by omega)]
    exact zl_some rfl
  · rw [if_neg hw, if_pos (show (0 : Int) = 0 from rfl)]
    exact zl_some rfl

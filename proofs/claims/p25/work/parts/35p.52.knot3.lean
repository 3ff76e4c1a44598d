/-! parts of a formula lay the same knots -/
def zKt (t t' : zu_m) (r a b h' : Int) : Prop := t' 190 21 = t 190 21 + 1 ∧ t' 208 (64 + t 190 21) = r ∧ t' 209 (64 + t 190 21) = a ∧ t' 210 (64 + t 190 21) = b ∧ (∀ i, i ≠ 64 + t 190 21 → t' 208 i = t 208 i) ∧ (∀ i, i ≠ 64 + t 190 21 → t' 209 i = t 209 i) ∧ (∀ i, i ≠ 64 + t 190 21 → t' 210 i = t 210 i) ∧ t' 190 46 = h' + 1 ∧ t' 212 h' = t 190 21 ∧ (∀ i, i ≠ h' → t' 212 i = t 212 i)
def zKc (m m' : zu_m) (c x : Int) : Prop := m' 10 6 = m 10 6 + 1 ∧ m' 11 (m 10 6) = c ∧ m' 12 (m 10 6) = x ∧ (∀ i, i ≠ m 10 6 → m' 11 i = m 11 i) ∧ (∀ i, i ≠ m 10 6 → m' 12 i = m 12 i)
theorem zy_110g (n : Nat) {k a b : Int} {t : zu_m} (h0 : 0 ≤ t 190 21) (h64 : t 190 21 ≤ 64) (hh : 0 ≤ t 190 46) : zl (zu_call (zt_T n) 110 [(40, 190), (0, k), (0, a), (0, b)] t) (fun _ t' => t 190 21 < 64 ∧ t 190 46 < 96 ∧ zKt t t' k a b (t 190 46)) := by
  by_cases hn : t 190 21 < 64
  · by_cases h9 : t 190 46 < 96
    · exact zl_mono (zy_110 n hn h0 ⟨hh, h9⟩) (fun _ t' h => ⟨hn, h9, h⟩)
    · refine zl_eq (zu_call_at (zt_T n) (zm_110 n) (zdp_110 n) _ _ _ _ _ rfl (zr_110_0 n _ _ 190 k a b t)) ?_
      refine zl_if (fun _ => zl_if (fun _ => zl_if (fun _ => zl_if (fun h4 => ?_))))
      exfalso
      rw [zu_up_ne (Or.inl (by decide)), zu_up_ne (Or.inl (by decide)), zu_up_ne (Or.inl (by decide))] at h4
      exact h9 h4.2
  · refine zl_eq (zu_call_at (zt_T n) (zm_110 n) (zdp_110 n) _ _ _ _ _ rfl (zr_110_0 n _ _ 190 k a b t)) ?_
    rw [show t 190 21 = 64 by omega, if_neg (show ¬ (0 ≤ zu_w32 (64 + 64) ∧ zu_w32 (64 + 64) < 128) by decide)]
    exact zl_none
theorem zy_200 (n : Nat) {a b : Int} {m : zu_m} (h5 : 0 ≤ m 10 5) (hn : m 10 6 < 64) (h6 : 0 ≤ m 10 6) : zl (zu_call (zt_T n) 200 [(24, 47), (0, a), (0, b)] m) (fun v m' => v = 0 → zKc m m' a b) := by
  refine zl_eq (zu_call_at (zt_T n) (zm_200 n) (zdp_200 n) _ _ _ _ _ rfl (zr_200_0 n _ _ 47 a b m)) ?_
  by_cases h : m 10 5 < 64
  · rw [zc_204a n h5 h, zu_bds, if_pos (show (1 : Int) ≠ 0 by decide)]
    generalize hm1 : zu_up m 10 5 (m 10 5 + 1) = m1
    have e6 : m1 10 6 = m 10 6 := zs_ne hm1 (Or.inr (by decide))
    have e11 : ∀ i, m1 11 i = m 11 i := fun i => zs_ne hm1 (Or.inl (by decide))
    have e12 : ∀ i, m1 12 i = m 12 i := fun i => zs_ne hm1 (Or.inl (by decide))
    refine zl_bd (zl_mono (zy_207 n (by rw [e6]; exact hn) (by rw [e6]; exact h6)) (fun _ m2 hs => ?_))
    obtain ⟨d1, d2, d3, d4, d5⟩ := hs
    rw [e6] at d1 d2 d3 d4 d5
    rw [zu_b0]
    refine zl_some (fun _ => ⟨(zu_up_ne (Or.inl (by decide))).trans d1, (zu_up_ne (Or.inl (by decide))).trans d2, (zu_up_ne (Or.inl (by decide))).trans d3, fun i hi => (zu_up_ne (Or.inl (by decide))).trans ((d4 i hi).trans (e11 i)), fun i hi => (zu_up_ne (Or.inl (by decide))).trans ((d5 i hi).trans (e12 i))⟩)
  · rw [zc_204b n h, zu_bds, if_neg (show ¬ (0 : Int) ≠ 0 by decide)]
    exact zl_some (fun h0 => absurd h0 (by decide))
theorem zy_199k (n : Nat) {m : zu_m} (hk : zPl (m 45 4) (m 45 5)) (h5 : 0 ≤ m 10 5) (hn : m 10 6 < 64) (h6 : 0 ≤ m 10 6) : zl (zu_call (zt_T n) 199 [(24, 47)] m) (fun v m' => v = 0 → ((m 45 4 = 3 ∧ zKc m m' 16 (m 45 5)) ∨ (m 45 4 = 1 ∧ zKc m m' 17 (m 45 5 - 26)))) := by
  refine zl_eq (zu_call_at (zt_T n) (zm_199 n) (zdp_199 n) _ _ _ _ _ rfl (zr_199_0 n _ _ 47 m)) ?_
  rcases hk with ⟨k1, k2⟩ | ⟨k1, k2, k3⟩
  · rw [if_neg (fun q => q k1), if_pos k2]
    exact zl_bd (zl_mono (zy_200 n h5 hn h6) (fun v m1 hs => zl_some (fun h => Or.inl ⟨k1, hs h⟩)))
  · rw [if_pos (show m 45 4 ≠ 3 by omega), zc_279q n m (by decide) (by decide) (by decide) (by decide), zu_bds, if_pos (show m 45 4 = 1 ∧ 26 ≤ m 45 5 ∧ m 45 5 < 26 + 7 by omega), if_neg (show ¬ (1 : Int) = 0 by decide), zu_w32_id (z := m 45 5 - 26) (by omega) (by omega)]
    exact zl_bd (zl_mono (zy_200 n h5 hn h6) (fun v m1 hs => zl_some (fun h => Or.inr ⟨k1, hs h⟩)))
theorem zKt_tr {t t1 t2 : zu_m} {r a b h' : Int} (h : zKt t t1 r a b h') (e21 : t2 190 21 = t1 190 21) (e46 : t2 190 46 = t1 190 46) (e208 : ∀ i, t2 208 i = t1 208 i) (e209 : ∀ i, t2 209 i = t1 209 i) (e210 : ∀ i, t2 210 i = t1 210 i) (e212 : ∀ i, t2 212 i = t1 212 i) : zKt t t2 r a b h' := by
  obtain ⟨c1, c2, c3, c4, c5, c6, c7, c8, c9, c10⟩ := h
  exact ⟨e21.trans c1, (e208 _).trans c2, (e209 _).trans c3, (e210 _).trans c4, fun i hi => (e208 i).trans (c5 i hi), fun i hi => (e209 i).trans (c6 i hi), fun i hi => (e210 i).trans (c7 i hi), e46.trans c8, (e212 _).trans c9, fun i hi => (e212 i).trans (c10 i hi)⟩
theorem zKt_fr {t t1 t2 : zu_m} {r a b h' : Int} (h : zKt t t1 r a b h') (hf : zfr zWB t1 t2) : zKt t t2 r a b h' := zKt_tr h (zfr_ap hf zq_190 rfl) (zfr_ap hf zq_190 rfl) (fun i => zfr_ap hf zq_208 rfl) (fun i => zfr_ap hf zq_209 rfl) (fun i => zfr_ap hf zq_210 rfl) (fun i => zfr_ap hf zq_212 rfl)
theorem zy_116_138 (n : Nat) {t t0 : zu_m} {V : List (Nat × Nat)} (hB : zTB t0) (hf : zfr V t0 t) (hd : zdis V [(100, 0), (28, 7), (28, 8), (101, 0)] = true) (x : Int) (h0 : 0 ≤ t 190 21) (h64 : t 190 21 ≤ 64) (hh : 0 ≤ t 190 46) : zl (zu_ex (zt_T n) 116 138 [(40, 190), (0, x)] [] t) (fun w t' => t 190 21 < 64 ∧ t 190 46 < 96 ∧ ((x < 0 ∧ zKt t t' 0 (t 190 9) 0 (t 190 46)) ∨ (0 ≤ x ∧ zKt t t' 1 x 0 (t 190 46)))) := by
  refine zl_eq (zu_rega_at (zt_T n) (zm_116 n) (zdp_116 n) _ _ _ _ _ _ (zs_116_138 n _ _ x t)) ?_
  have fin : ∀ (k a b : Int), zl (zu_bd (zu_call (zt_T n) 110 [(40, 190), (0, k), (0, a), (0, b)] t) (fun v161 s161 => (zu_b 0 (zu_bd (zu_call (zt_T n) 89 [(40, 190)] (zu_up s161 190 49 0)) (fun v170 s170 => (zu_b 1 (some (1, s170)))))))) (fun w t' => t 190 21 < 64 ∧ t 190 46 < 96 ∧ zKt t t' k a b (t 190 46)) := fun k a b => by
    refine zl_bd (zl_mono (zl_both (zy_110g n h0 h64 hh) (zz_110 n)) (fun _ s1 hs => ?_))
    obtain ⟨⟨g1, g2, g3⟩, h1⟩ := hs
    refine zl_b ?_
    generalize hm2 : zu_up s1 190 49 0 = s2
    have hf2 : zfr [(28, 22), (28, 47), (117, 0), (118, 0), (119, 0), (121, 0), (28, 50)] t s2 := zfr_up hm2 (zfr_tr (zfr_rf _ t) h1 rfl) zq_190 rfl
    have ht0 : zfr (V ++ [(28, 22), (28, 47), (117, 0), (118, 0), (119, 0), (121, 0), (28, 50)]) t0 s2 := fun a p hz => by
      unfold zin at hz
      rw [List.any_append, Bool.or_eq_false_iff] at hz
      exact (hf2 a p hz.2).trans (hf a p hz.1)
    have hdd : zdis (V ++ [(28, 22), (28, 47), (117, 0), (118, 0), (119, 0), (121, 0), (28, 50)]) [(100, 0), (28, 7), (28, 8), (101, 0)] = true := by
      unfold zdis at hd ⊢
      rw [List.all_append, hd]
      rfl
    refine zl_bd (zl_mono (zz_89 n hB ht0 hdd) (fun _ s3 hs => ?_))
    refine zl_b (zl_some ⟨g1, g2, zKt_fr (zKt_tr g3 (zs_ne hm2 (Or.inr (by decide))) (zs_ne hm2 (Or.inr (by decide))) (fun i => zs_ne hm2 (Or.inl (by decide))) (fun i => zs_ne hm2 (Or.inl (by decide))) (fun i => zs_ne hm2 (Or.inl (by decide))) (fun i => zs_ne hm2 (Or.inl (by decide)))) hs.1⟩)
  refine zl_ite (fun hx => ?_) (fun hx => ?_)
  · rw [if_pos hx]
    exact zl_mono (fin 0 (t 190 9) 0) (fun w t' h => ⟨h.1, h.2.1, Or.inl ⟨hx, h.2.2⟩⟩)
  · rw [if_neg hx]
    exact zl_mono (fin 1 x 0) (fun w t' h => ⟨h.1, h.2.1, Or.inr ⟨Int.not_lt.mp hx, h.2.2⟩⟩)
theorem zy_116k (n : Nat) {t : zu_m} (hB : zTB t) (h9 : -2147483648 ≤ t 190 9 ∧ t 190 9 ≤ 2147483647) (hk : (t 190 8 = 3 ∧ t 190 9 ≤ 9999) ∨ (t 190 8 = 1 ∧ 26 ≤ t 190 9)) (hb : 0 ≤ t 190 48 ∧ t 190 48 ≤ 64) (h0 : 0 ≤ t 190 21) (h64 : t 190 21 ≤ 64) (hh : 0 ≤ t 190 46) : zl (zu_call (zt_T n) 116 [(40, 190)] t) (fun w t' => w = 1 → t 190 21 < 64 ∧ t 190 46 < 96 ∧ ((t 190 8 = 3 ∧ zKt t t' 0 (t 190 9) 0 (t 190 46)) ∨ (t 190 8 = 1 ∧ zKt t t' 1 (t 190 9 - 26) 0 (t 190 46)))) := by
  refine zz_116_86 n (by omega) (by omega) ?_
  refine zl_eq (zu_rega_at (zt_T n) (zm_116 n) (zdp_116 n) _ _ _ _ _ _ (zs_116_86 n _ _ t)) ?_
  have g129 : ∀ x : Int, ((t 190 8 = 3 ∧ x = -1) ∨ (t 190 8 = 1 ∧ 0 ≤ x ∧ x = t 190 9 - 26)) → zl (zu_ex (zt_T n) 116 129 [(40, 190), (0, x)] [] t) (fun w t' => w = 1 → t 190 21 < 64 ∧ t 190 46 < 96 ∧ ((t 190 8 = 3 ∧ zKt t t' 0 (t 190 9) 0 (t 190 46)) ∨ (t 190 8 = 1 ∧ zKt t t' 1 (t 190 9 - 26) 0 (t 190 46)))) := fun x hx => by
    refine zl_eq (zu_rega_at (zt_T n) (zm_116 n) (zdp_116 n) _ _ _ _ _ _ (zs_116_129 n _ _ x t)) ?_
    by_cases h64' : t 190 48 = 64
    · rw [zc_113b n h64', zu_bds, if_neg (show ¬ (0 : Int) ≠ 0 by decide), zu_b0]
      exact zl_some (fun h => absurd h (by decide))
    rw [zc_113a n hb.1 (by omega), zu_bds, if_pos (show (1 : Int) ≠ 0 by decide)]
    generalize hm1 : zu_up t 190 48 (t 190 48 + 1) = t1
    have hf1 : zfr [(28, 49)] t t1 := zfr_up hm1 (zfr_rf _ _) zq_190 rfl
    have e21 : t1 190 21 = t 190 21 := zfr_ap hf1 zq_190 rfl
    have e46 : t1 190 46 = t 190 46 := zfr_ap hf1 zq_190 rfl
    have e9 : t1 190 9 = t 190 9 := zfr_ap hf1 zq_190 rfl
    have back : ∀ {t2 : zu_m} {r a b h' : Int}, zKt t1 t2 r a b h' → zKt t t2 r a b h' := fun h => by
      unfold zKt at h ⊢
      rw [e21, funext (fun i => zfr_ap hf1 zq_208 rfl : ∀ i, t1 208 i = t 208 i), funext (fun i => zfr_ap hf1 zq_209 rfl : ∀ i, t1 209 i = t 209 i), funext (fun i => zfr_ap hf1 zq_210 rfl : ∀ i, t1 210 i = t 210 i), funext (fun i => zfr_ap hf1 zq_212 rfl : ∀ i, t1 212 i = t 212 i)] at h
      exact h
    refine zl_mono (zy_116_138 n hB hf1 rfl x (by rw [e21]; exact h0) (by rw [e21]; exact h64) (by rw [e46]; exact hh)) (fun w t2 hs _ => ?_)
    rw [e21, e46, e9] at hs
    obtain ⟨g1, g2, g3⟩ := hs
    refine ⟨g1, g2, ?_⟩
    rcases g3 with ⟨g3, g4⟩ | ⟨g3, g4⟩
    · rcases hx with ⟨x1, x2⟩ | ⟨x1, x2, x3⟩
      · exact Or.inl ⟨x1, back g4⟩
      · exfalso; omega
    · rcases hx with ⟨x1, x2⟩ | ⟨x1, x2, x3⟩
      · exfalso; omega
      · rw [x3] at g4
        exact Or.inr ⟨x1, back g4⟩
  have g109 : ∀ x : Int, ((t 190 8 = 3 ∧ x = -1) ∨ (t 190 8 = 1 ∧ 0 ≤ x ∧ x = t 190 9 - 26)) → (0 ≤ x ∨ t 190 9 ≤ 9999) → zl (zu_ex (zt_T n) 116 109 [(40, 190), (0, x)] [] t) (fun w t' => w = 1 → t 190 21 < 64 ∧ t 190 46 < 96 ∧ ((t 190 8 = 3 ∧ zKt t t' 0 (t 190 9) 0 (t 190 46)) ∨ (t 190 8 = 1 ∧ zKt t t' 1 (t 190 9 - 26) 0 (t 190 46)))) := fun x hx hx2 => by
    refine zl_eq (zu_rega_at (zt_T n) (zm_116 n) (zdp_116 n) _ _ _ _ _ _ (zs_116_109 n _ _ x t)) ?_
    refine zl_ite (fun _ => g129 x hx) (fun q => ?_)
    rw [if_pos (show t 190 9 ≤ 9999 by omega)]
    exact g129 x hx
  rw [zc_115 n h9, zu_bds]
  rcases hk with ⟨k1, k2⟩ | ⟨k1, k2⟩
  · rw [if_neg (show ¬ (t 190 8 = 1 ∧ 26 ≤ t 190 9) by omega), if_neg (show ¬ 0 ≤ (-1 : Int) by decide), if_pos k1]
    exact g109 (-1) (Or.inl ⟨k1, rfl⟩) (Or.inr k2)
  · rw [if_pos (show t 190 8 = 1 ∧ 26 ≤ t 190 9 from ⟨k1, k2⟩), if_pos (show 0 ≤ t 190 9 - 26 by omega)]
    exact g109 _ (Or.inr ⟨k1, by omega, rfl⟩) (Or.inl (by omega))
/-- a leaf: the same knot -/
theorem zz_leafK (n : Nat) {f : Int} {m t : zu_m} (hA : zKA f m t) (hK : zKV (m 45 4) (m 45 5) (t 190 8) (t 190 9)) (hp : zPl (m 45 4) (m 45 5)) (hp' : (t 190 8 = 3 ∧ t 190 9 ≤ 9999) ∨ (t 190 8 = 1 ∧ 26 ≤ t 190 9)) (h5 : 0 ≤ m 10 5) (hB : zTB t) (h9 : -2147483648 ≤ t 190 9 ∧ t 190 9 ≤ 2147483647) (hb : 0 ≤ t 190 48 ∧ t 190 48 ≤ 64) : zl (zu_call (zt_T n) 199 [(24, 47)] m) (fun v m' => zl (zu_call (zt_T n) 116 [(40, 190)] t) (fun w t' => v = 0 → w = 1 → zKA f m' t' ∧ t' 190 46 ≤ 96)) := by
  have hA0 := hA
  obtain ⟨a1, a2, a3, a4, a5, -, -⟩ := hA0
  have h116 := zy_116k n hB h9 hp' hb (by omega) a4 a5
  by_cases hn : t 190 21 < 64
  · refine zl_mono (zy_199k n hp h5 (by omega) (by omega)) (fun v m' hc => zl_mono h116 (fun w t' ht hv hw => ?_))
    obtain ⟨g1, g2, g3⟩ := ht hw
    have hc := hc hv
    unfold zKV at hK
    have fin : ∀ (r c a x : Int), ((r = 0 ∧ c = 16 ∧ a = x) ∨ (r = 1 ∧ c = 17 ∧ a = x)) → zKc m m' c x → zKt t t' r a 0 (t 190 46) → zKA f m' t' ∧ t' 190 46 ≤ 96 := fun r c a x hr hc ht => by
      obtain ⟨d1, d2, d3, d4, d5⟩ := hc
      obtain ⟨c1, c2, c3, c4, c5, c6, c7, c8, c9, c10⟩ := ht
      exact ⟨zKA_add (h' := t 190 46) hA hn d1 d2 d3 d4 d5 c1 c2 c3 c4 c5 c6 c7 c8 a5 c9 (fun i hi => c10 i (by omega)) (Or.inl ⟨hr, rfl⟩), by omega⟩
    rcases hc with ⟨k1, hc⟩ | ⟨k1, hc⟩
    · rcases g3 with ⟨k2, ht⟩ | ⟨k2, ht⟩
      · exact fin 0 16 _ _ (Or.inl ⟨rfl, rfl, by omega⟩) hc ht
      · exfalso; omega
    · rcases g3 with ⟨k2, ht⟩ | ⟨k2, ht⟩
      · exfalso; omega
      · exact fin 1 17 _ _ (Or.inr ⟨rfl, rfl, by omega⟩) hc ht
  · exact fun v m' _ => zl_mono h116 (fun w t' ht _ hw => absurd (ht hw).1 hn)

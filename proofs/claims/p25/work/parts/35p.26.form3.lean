theorem zz_116_138 (n : Nat) {t t0 : zu_m} {V : List (Nat × Nat)} (hB : zTB t0) (hf : zfr V t0 t) (hd : zdis V [(100, 0), (28, 7), (28, 8), (101, 0)] = true) (x : Int) : zl (zu_ex (zt_T n) 116 138 [(40, 190), (0, x)] [] t) (fun w t' => w = 1 ∧ t' 190 49 = 0 ∧ zfr [(28, 22), (28, 47), (117, 0), (118, 0), (119, 0), (121, 0), (28, 50), (28, 8), (28, 9), (28, 10), (28, 11)] t t' ∧ zNX t0 t') := by
  refine zl_eq (zu_rega_at (zt_T n) (zm_116 n) (zdp_116 n) _ _ _ _ _ _ (zs_116_138 n _ _ x t)) ?_
  have fin : ∀ (k a b : Int), zl (zu_bd (zu_call (zt_T n) 110 [(40, 190), (0, k), (0, a), (0, b)] t) (fun v161 s161 => (zu_b 0 (zu_bd (zu_call (zt_T n) 89 [(40, 190)] (zu_up s161 190 49 0)) (fun v170 s170 => (zu_b 1 (some (1, s170)))))))) (fun w t' => w = 1 ∧ t' 190 49 = 0 ∧ zfr [(28, 22), (28, 47), (117, 0), (118, 0), (119, 0), (121, 0), (28, 50), (28, 8), (28, 9), (28, 10), (28, 11)] t t' ∧ zNX t0 t') := fun k a b => by
    refine zl_bd (zl_mono (zz_110 n) (fun _ s1 h1 => ?_))
    refine zl_b ?_
    generalize hm2 : zu_up s1 190 49 0 = s2
    have hf2 : zfr [(28, 22), (28, 47), (117, 0), (118, 0), (119, 0), (121, 0), (28, 50)] t s2 := zfr_up hm2 (zfr_tr (zfr_rf _ t) h1 rfl) zq_190 rfl
    have ht0 : zfr (V ++ [(28, 22), (28, 47), (117, 0), (118, 0), (119, 0), (121, 0), (28, 50)]) t0 s2 := fun a p hz => by
      unfold zin at hz
      rw [List.any_append, Bool.or_eq_false_iff] at hz
      exact (hf2 a p hz.2).trans (hf a p hz.1)
    have hdd : zdis (V ++ [(28, 22), (28, 47), (117, 0), (118, 0), (119, 0), (121, 0), (28, 50)]) [(100, 0), (28, 7), (28, 8), (101, 0)] = true := by
      unfold zdis at hd ⊢
      rw [List.all_append, hd]
      rfl
    refine zl_bd (zl_mono (zz_89 n hB ht0 hdd) (fun _ s3 hs => ?_))
    obtain ⟨g1, g2⟩ := hs
    refine zl_b (zl_some ⟨rfl, (zfr_ap g1 zq_190 rfl).trans (zs_eq hm2), zfr_tr (zfr_tr (zfr_rf _ t) hf2 rfl) g1 rfl, g2⟩)
  refine zl_ite (fun _ => zl_ite (fun _ => fin _ _ _) (fun _ => fin _ _ _)) (fun _ => zl_ite (fun _ => fin _ _ _) (fun _ => fin _ _ _))
theorem zz_116_leaf (n : Nat) {t : zu_m} (hB : zTB t) (h9 : -2147483648 ≤ t 190 9 ∧ t 190 9 ≤ 2147483647) (hk : (t 190 8 = 3 ∧ t 190 9 ≤ 9999) ∨ (t 190 8 = 1 ∧ 26 ≤ t 190 9)) (hb : 0 ≤ t 190 48 ∧ t 190 48 ≤ 64) : zl (zu_call (zt_T n) 116 [(40, 190)] t) (fun w t' => (t 190 48 = 64 ∧ w = 0 ∧ t' = zFR t 2) ∨ (t 190 48 < 64 ∧ w = 1 ∧ t' 190 48 = t 190 48 + 1 ∧ t' 190 49 = 0 ∧ zfr [(28, 49), (28, 22), (28, 47), (117, 0), (118, 0), (119, 0), (121, 0), (28, 50), (28, 8), (28, 9), (28, 10), (28, 11)] t t' ∧ zNX t t')) := by
  refine zz_116_86 n (by omega) (by omega) ?_
  refine zl_eq (zu_rega_at (zt_T n) (zm_116 n) (zdp_116 n) _ _ _ _ _ _ (zs_116_86 n _ _ t)) ?_
  have g129 : ∀ x : Int, zl (zu_ex (zt_T n) 116 129 [(40, 190), (0, x)] [] t) (fun w t' => (t 190 48 = 64 ∧ w = 0 ∧ t' = zFR t 2) ∨ (t 190 48 < 64 ∧ w = 1 ∧ t' 190 48 = t 190 48 + 1 ∧ t' 190 49 = 0 ∧ zfr [(28, 49), (28, 22), (28, 47), (117, 0), (118, 0), (119, 0), (121, 0), (28, 50), (28, 8), (28, 9), (28, 10), (28, 11)] t t' ∧ zNX t t')) := fun x => by
    refine zl_eq (zu_rega_at (zt_T n) (zm_116 n) (zdp_116 n) _ _ _ _ _ _ (zs_116_129 n _ _ x t)) ?_
    by_cases h64 : t 190 48 = 64
    · rw [zc_113b n h64, zu_bds, if_neg (show ¬ (0 : Int) ≠ 0 by decide), zu_b0]
      exact zl_some (Or.inl ⟨h64, rfl, rfl⟩)
    rw [zc_113a n hb.1 (by omega), zu_bds, if_pos (show (1 : Int) ≠ 0 by decide)]
    generalize hm1 : zu_up t 190 48 (t 190 48 + 1) = t1
    have hf1 : zfr [(28, 49)] t t1 := zfr_up hm1 (zfr_rf _ _) zq_190 rfl
    refine zl_mono (zz_116_138 n hB hf1 rfl x) (fun w t2 hs => ?_)
    obtain ⟨g1, g2, g3, g4⟩ := hs
    exact Or.inr ⟨by omega, g1, (zfr_ap g3 zq_190 rfl).trans (zs_eq hm1), g2, zfr_tr (zfr_tr (zfr_rf _ t) hf1 rfl) g3 rfl, g4⟩
  have g109 : ∀ x : Int, (0 ≤ x ∨ t 190 9 ≤ 9999) → zl (zu_ex (zt_T n) 116 109 [(40, 190), (0, x)] [] t) (fun w t' => (t 190 48 = 64 ∧ w = 0 ∧ t' = zFR t 2) ∨ (t 190 48 < 64 ∧ w = 1 ∧ t' 190 48 = t 190 48 + 1 ∧ t' 190 49 = 0 ∧ zfr [(28, 49), (28, 22), (28, 47), (117, 0), (118, 0), (119, 0), (121, 0), (28, 50), (28, 8), (28, 9), (28, 10), (28, 11)] t t' ∧ zNX t t')) := fun x hx => by
    refine zl_eq (zu_rega_at (zt_T n) (zm_116 n) (zdp_116 n) _ _ _ _ _ _ (zs_116_109 n _ _ x t)) ?_
    refine zl_ite (fun _ => g129 x) (fun q => ?_)
    rw [if_pos (show t 190 9 ≤ 9999 by omega)]
    exact g129 x
  rw [zc_115 n h9, zu_bds]
  rcases hk with ⟨k1, k2⟩ | ⟨k1, k2⟩
  · rw [if_neg (show ¬ (t 190 8 = 1 ∧ 26 ≤ t 190 9) by omega), if_neg (show ¬ 0 ≤ (-1 : Int) by decide), if_pos k1]
    exact g109 (-1) (Or.inr k2)
  · rw [if_pos (show t 190 8 = 1 ∧ 26 ≤ t 190 9 from ⟨k1, k2⟩), if_pos (show 0 ≤ t 190 9 - 26 by omega)]
    exact g109 _ (Or.inl (by omega))
theorem zz_116_over (n : Nat) {t : zu_m} (h9 : -2147483648 ≤ t 190 9 ∧ t 190 9 ≤ 2147483647) (hk : t 190 8 = 3 ∧ 9999 < t 190 9) : zl (zu_call (zt_T n) 116 [(40, 190)] t) (fun w t' => w = 0 ∧ t' = zFR t 2) := by
  refine zz_116_86 n (by omega) (by omega) ?_
  refine zl_eq (zu_rega_at (zt_T n) (zm_116 n) (zdp_116 n) _ _ _ _ _ _ (zs_116_86 n _ _ t)) ?_
  rw [zc_115 n h9, zu_bds, if_neg (show ¬ (t 190 8 = 1 ∧ 26 ≤ t 190 9) by omega), if_neg (show ¬ 0 ≤ (-1 : Int) by decide), if_pos hk.1]
  refine zl_eq (zu_rega_at (zt_T n) (zm_116 n) (zdp_116 n) _ _ _ _ _ _ (zs_116_109 n _ _ (-1) t)) ?_
  rw [if_neg (show ¬ 0 ≤ (-1 : Int) by decide), if_neg (show ¬ t 190 9 ≤ 9999 by omega), zc_85, zu_bds, zu_b0]
  exact zl_some ⟨rfl, rfl⟩
theorem zz_116_else (n : Nat) {t : zu_m} (h9 : -2147483648 ≤ t 190 9 ∧ t 190 9 ≤ 2147483647) (h1 : ¬ (t 190 8 = 4 ∧ t 190 9 = 40)) (h2 : ¬ (t 190 8 = 1 ∧ t 190 9 = 25 ∧ t 190 50 ≠ 0)) (h3 : t 190 8 ≠ 3) (h4 : ¬ (t 190 8 = 1 ∧ 26 ≤ t 190 9)) : zl (zu_call (zt_T n) 116 [(40, 190)] t) (fun w t' => w = 0 ∧ t' = zFR t 1) := by
  refine zz_116_86 n h1 h2 ?_
  refine zl_eq (zu_rega_at (zt_T n) (zm_116 n) (zdp_116 n) _ _ _ _ _ _ (zs_116_86 n _ _ t)) ?_
  rw [zc_115 n h9, zu_bds, if_neg h4, if_neg (show ¬ 0 ≤ (-1 : Int) by decide), if_neg h3, zc_85, zu_bds, zu_b0]
  exact zl_some ⟨rfl, rfl⟩

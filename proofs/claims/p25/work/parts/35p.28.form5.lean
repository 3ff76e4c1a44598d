/-! a part of a formula, side by side -/
theorem zFM_leaf {m t m' t' : zu_m} (h : zFM m t) (hf : zfr [(5, 6), (5, 7), (33, 0), (34, 0), (10, 7)] m m') (hft : zfr [(28, 49), (28, 22), (28, 47), (117, 0), (118, 0), (119, 0), (121, 0), (28, 50), (28, 8), (28, 9), (28, 10), (28, 11)] t t') (h1 : m' 10 5 = m 10 5 + 1) (h2 : t' 190 48 = t 190 48 + 1) (h64 : t 190 48 < 64) (h3 : m' 47 6 = 0) (h4 : t' 190 49 = 0) : zFM m' t' := by
  obtain ⟨⟨a1, a2, a3, a4⟩, ⟨b1, b2, b3⟩, ⟨c1, c2⟩, d, ⟨e1, e2⟩, ⟨f1, f2, f3, f4⟩, g⟩ := h
  have t45 : t' 190 45 = t 190 45 := zfr_ap hft zq_190 rfl
  have t47 : t' 190 47 = t 190 47 := zfr_ap hft zq_190 rfl
  have t50 : t' 190 50 = t 190 50 := zfr_ap hft zq_190 rfl
  have t211 : t' 211 = t 211 := funext (fun i => zfr_ap hft zq_211 rfl)
  have m3 : m' 47 3 = m 47 3 := zfr_ap hf zq_47 rfl
  have m4 : m' 47 4 = m 47 4 := zfr_ap hf zq_47 rfl
  have m7 : m' 47 7 = m 47 7 := zfr_ap hf zq_47 rfl
  have m48 : ∀ i, m' 48 i = m 48 i := fun i => zfr_ap hf zq_48 rfl
  have m49 : ∀ i, m' 49 i = m 49 i := fun i => zfr_ap hf zq_49 rfl
  refine ⟨⟨?_, ?_, ?_, fun i i0 i1 => ?_⟩, ⟨?_, ?_, ?_⟩, ⟨?_, fun p p1 p0 => ?_⟩, ?_, ⟨?_, ?_⟩, ⟨?_, ?_, ?_, ?_⟩, fun q => absurd h4 q⟩
  · rw [m3, t45]; exact a1
  · rw [t45]; exact a2
  · rw [t45]; exact a3
  · rw [m48, t211]; rw [t45] at i1; exact a4 i i0 i1
  · rw [m4, t47]; exact b1
  · rw [t47]; exact b2
  · rw [t47, t211, t45]; exact b3
  · rw [t47, t211, t45, m49]; exact c1
  · rw [t211] at p0 ⊢
    rw [t45] at p1
    rw [m49]
    exact c2 p p1 p0
  · rw [t211, t45]; exact d
  · rw [h3, h4]
  · rw [m7, t50]; exact e2
  · omega
  · omega
  · omega
  · omega
theorem zz_part (n : Nat) {m t : zu_m} (hF : zFM m t) (hK : zKV (m 45 4) (m 45 5) (t 190 8) (t 190 9)) (hw : t 190 49 ≠ 0) (hB : zTB t) (h9 : -2147483648 ≤ t 190 9 ∧ t 190 9 ≤ 2147483647) : zl (zu_call (zt_T n) 199 [(24, 47)] m) (fun v m' => zl (zu_call (zt_T n) 116 [(40, 190)] t) (fun w t' => (v ≠ 0 ∧ w = 0 ∧ t' = zFR t v) ∨ (v = 0 ∧ w = 1 ∧ zFM m' t' ∧ zNX t t' ∧ t' 190 5 = t 190 5))) := by
  have hF0 := hF
  obtain ⟨⟨a1, a2, a3, a4⟩, ⟨b1, b2, b3⟩, ⟨c1, c2⟩, d, ⟨e1, e2⟩, ⟨f1, f2, f3, f4⟩, g⟩ := hF
  have b0 : 0 ≤ t 190 47 := by rw [b3]; exact zdpq_nn _ _
  have els : m 45 4 ≠ 3 → ¬ (m 45 4 = 1 ∧ 26 ≤ m 45 5 ∧ m 45 5 < 33) → ¬ (m 45 4 = 4 ∧ m 45 5 = 1) → ¬ (m 45 4 = 1 ∧ m 45 5 = 25 ∧ m 47 7 ≠ 0) → ¬ (t 190 8 = 4 ∧ t 190 9 = 40) → ¬ (t 190 8 = 1 ∧ t 190 9 = 25 ∧ t 190 50 ≠ 0) → t 190 8 ≠ 3 → ¬ (t 190 8 = 1 ∧ 26 ≤ t 190 9) → zl (zu_call (zt_T n) 199 [(24, 47)] m) (fun v m' => zl (zu_call (zt_T n) 116 [(40, 190)] t) (fun w t' => (v ≠ 0 ∧ w = 0 ∧ t' = zFR t v) ∨ (v = 0 ∧ w = 1 ∧ zFM m' t' ∧ zNX t t' ∧ t' 190 5 = t 190 5))) := fun q1 q2 q3 q4 q5 q6 q7 q8 =>
    zl_mono (zz_199_else n q1 q2 q3 q4) (fun v m' hv => zl_mono (zz_116_else n h9 q5 q6 q7 q8) (fun w t' hw' => Or.inl ⟨by rw [hv]; decide, hw'.1, by rw [hv]; exact hw'.2⟩))
  have leaf : zPl (m 45 4) (m 45 5) → ((t 190 8 = 3 ∧ t 190 9 ≤ 9999) ∨ (t 190 8 = 1 ∧ 26 ≤ t 190 9)) → zl (zu_call (zt_T n) 199 [(24, 47)] m) (fun v m' => zl (zu_call (zt_T n) 116 [(40, 190)] t) (fun w t' => (v ≠ 0 ∧ w = 0 ∧ t' = zFR t v) ∨ (v = 0 ∧ w = 1 ∧ zFM m' t' ∧ zNX t t' ∧ t' 190 5 = t 190 5))) := fun q1 q2 =>
    zl_mono (zz_199_leaf n q1 (by rw [f1]; exact f2)) (fun v m' hv => zl_mono (zz_116_leaf n hB h9 q2 ⟨f2, f3⟩) (fun w t' hw' => by
      rcases hv with ⟨v1, v2⟩ | ⟨v1, v2, v3, v4, v5⟩
      · rcases hw' with ⟨w1, w2, w3⟩ | ⟨w1, -⟩
        · exact Or.inl ⟨by rw [v2]; decide, w2, by rw [v2]; exact w3⟩
        · exfalso; omega
      · rcases hw' with ⟨w1, -⟩ | ⟨w1, w2, w3, w4, w5, w6⟩
        · exfalso; omega
        · exact Or.inr ⟨v2, w2, zFM_leaf hF0 v5 w5 v3 w3 w1 v4 w4, w6, zfr_ap w5 zq_190 rfl⟩))
  rcases hK with ⟨k1, k2⟩ | ⟨k1, k2, k3, k4, k5⟩ | ⟨k1, k2, k3⟩ | ⟨k1, k2, k3, k4⟩ | ⟨k1, k2, k3⟩ | ⟨k1, k2, k3, k4, k5⟩ | ⟨k1, k2⟩
  · exact els (by omega) (by omega) (by omega) (by omega) (by omega) (by omega) (by omega) (by omega)
  · by_cases h26 : 26 ≤ t 190 9
    · exact leaf (Or.inr ⟨k1, by omega, by omega⟩) (Or.inr ⟨k2, h26⟩)
    by_cases h25 : t 190 9 = 25
    · by_cases hm : t 190 50 = 0
      · exact els (by omega) (by omega) (by omega) (by omega) (by omega) (by omega) (by omega) (by omega)
      · have hv : m 45 5 = 25 := by omega
        have h72 : t 190 48 < 64 → t 190 45 + 1 ≤ 72 := fun _ => by omega
        by_cases h64 : t 190 48 = 64
        · have hlt : m 10 5 < 64 → False := fun q => by omega
          refine zl_mono (zz_199_not n ⟨k1, hv⟩ (by rw [e2]; exact hm) (by omega) ⟨by omega, fun q => (hlt q).elim⟩) (fun v m' hv' => zl_mono (zz_116_not n hB ⟨k2, h25⟩ hm ⟨f2, f3⟩ ⟨a2, by omega⟩) (fun w t' hw' => ?_))
          rcases hv' with ⟨v1, v2⟩ | ⟨v1, -⟩
          · rcases hw' with ⟨w1, w2, w3⟩ | ⟨w1, -⟩
            · exact Or.inl ⟨by rw [v2]; decide, w2, by rw [v2]; exact w3⟩
            · exfalso; omega
          · exact (hlt v1).elim
        · refine zl_mono (zz_199_not n ⟨k1, hv⟩ (by rw [e2]; exact hm) (by omega) ⟨by omega, fun _ => by omega⟩) (fun v m' hv' => zl_mono (zz_116_not n hB ⟨k2, h25⟩ hm ⟨f2, f3⟩ ⟨a2, by omega⟩) (fun w t' hw' => ?_))
          rcases hv' with ⟨v1, v2⟩ | ⟨v1, v2, v3, v4, v5, v6, v7⟩
          · exfalso; omega
          · rcases hw' with ⟨w1, -⟩ | ⟨w1, w2, w3, w4, w5, w6, w7, w8⟩
            · exact absurd w1 h64
            · have x47 : t' 190 47 = t 190 47 := zfr_ap w7 zq_190 rfl
              have x49 : t' 190 49 = t 190 49 := zfr_ap w7 zq_190 rfl
              have x50 : t' 190 50 = t 190 50 := zfr_ap w7 zq_190 rfl
              have y4 : m' 47 4 = m 47 4 := zfr_ap v7 zq_47 rfl
              have y6 : m' 47 6 = m 47 6 := zfr_ap v7 zq_47 rfl
              have y7 : m' 47 7 = m 47 7 := zfr_ap v7 zq_47 rfl
              have y49 : ∀ i, m' 49 i = m 49 i := fun i => zfr_ap v7 zq_49 rfl
              have htop := g hw hm
              rw [a1] at v4 v5 v6
              have z2 : zrk 2 = 3 := by decide
              refine Or.inr ⟨v2, w2, zFM_push (c := 15) (r := 2) hF0 (Or.inr (Or.inl ⟨rfl, rfl⟩)) v4 v5 w4 w5 v6 w6 (by omega) (by omega) (by omega) (Or.inr ⟨by decide, x47, ?_, fun i _ => y49 i, ?_⟩) ⟨by omega, by omega⟩ ⟨by omega, by omega, by omega, by omega⟩ (fun _ _ => by rw [z2]; decide), w8, zfr_ap w7 zq_190 rfl⟩
              · rw [y49, c1, z2]; rfl
              · rcases htop with q | q
                · exact Or.inl q
                · rw [z2]; omega
    · exact els (by omega) (by omega) (by omega) (by omega) (by omega) (by omega) (by omega) (by omega)
  · exact els (by omega) (by omega) (by omega) (by omega) (by omega) (by omega) (by omega) (by omega)
  · by_cases h : m 45 5 ≤ 9999
    · exact leaf (Or.inl ⟨k1, h⟩) (Or.inl ⟨k2, by omega⟩)
    · exact zl_mono (zz_199_over n ⟨k1, by omega⟩) (fun v m' hv => zl_mono (zz_116_over n h9 ⟨k2, by omega⟩) (fun w t' hw' => Or.inl ⟨by rw [hv]; decide, hw'.1, by rw [hv]; exact hw'.2⟩))
  · by_cases h : t 190 9 = 40
    · by_cases h8 : t 190 47 = 8
      · refine zl_mono (zz_199_open n ⟨k1, by omega⟩ (by omega) ⟨by omega, fun q => by exfalso; omega⟩) (fun v m' hv' => zl_mono (zz_116_open n hB ⟨k2, h⟩ ⟨b0, b2⟩ ⟨a2, by omega⟩) (fun w t' hw' => ?_))
        rcases hv' with ⟨v1, v2⟩ | ⟨v1, -⟩
        · rcases hw' with ⟨w1, w2, w3⟩ | ⟨w1, -⟩
          · exact Or.inl ⟨by rw [v2]; decide, w2, by rw [v2]; exact w3⟩
          · exact absurd h8 w1
        · exfalso; omega
      · refine zl_mono (zz_199_open n ⟨k1, by omega⟩ (by omega) ⟨by omega, fun _ => by omega⟩) (fun v m' hv' => zl_mono (zz_116_open n hB ⟨k2, h⟩ ⟨b0, b2⟩ ⟨a2, by omega⟩) (fun w t' hw' => ?_))
        rcases hv' with ⟨v1, v2⟩ | ⟨v1, v2, v3, v4, v5, v6, v7, v8, v9, v10⟩
        · exfalso; omega
        · rcases hw' with ⟨w1, -⟩ | ⟨w1, w2, w3, w4, w5, w6, w7, w8, w9⟩
          · exact absurd w1 h8
          · have x48 : t' 190 48 = t 190 48 := zfr_ap w8 zq_190 rfl
            have x49 : t' 190 49 = t 190 49 := zfr_ap w8 zq_190 rfl
            have y5 : m' 10 5 = m 10 5 := zfr_ap v10 zq_10 rfl
            have y6 : m' 47 6 = m 47 6 := zfr_ap v10 zq_47 rfl
            rw [a1] at v7 v8 v9
            rw [b1] at v4 v5
            exact Or.inr ⟨v2, w2, zFM_push (c := 1) (r := 0) hF0 (Or.inl ⟨rfl, rfl⟩) v7 v8 w4 w5 v9 w6 (by omega) (by omega) (by omega) (Or.inl ⟨rfl, w3, v4, v5⟩) ⟨by omega, by omega⟩ ⟨by omega, by omega, by omega, by omega⟩ (fun _ _ => by rw [zrk_0]; decide), w9, zfr_ap w8 zq_190 rfl⟩
    · exact els (by omega) (by omega) (by omega) (by omega) (by omega) (by omega) (by omega) (by omega)
  · exact els (by omega) (by omega) (by omega) (by omega) (by omega) (by omega) (by omega) (by omega)
  · exact els (by omega) (by omega) (by omega) (by omega) (by omega) (by omega) (by omega) (by omega)

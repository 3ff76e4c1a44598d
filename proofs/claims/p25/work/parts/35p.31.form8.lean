/-! behind a part: the reference -/
def zFT (t t' : zu_m) (v : Int) : Prop := t' 190 4 = v ∧ t' 190 5 = t 190 10
def zRk (k w : Int) : Int := if k = 1 ∧ w = 23 then 3 else if k = 1 ∧ w = 24 then 4 else if k = 5 then 5 + w else if k = 4 ∧ w = 43 then 11 else if k = 4 ∧ w = 45 then 12 else if k = 4 ∧ w = 42 then 13 else if k = 4 ∧ w = 47 then 14 else 0
theorem zFT_R {t s : zu_m} {v : Int} (h : s 190 10 = t 190 10) : zFT t (zFR s v) v := by
  unfold zFR
  exact ⟨(zu_up_ne (Or.inr (by decide))).trans zu_up_eq, zu_up_eq.trans h⟩
theorem zz_117_close (n : Nat) {t : zu_m} (hB : zTB t) (hk : t 190 8 = 4 ∧ t 190 9 = 41) (ho : 0 < t 190 47) {P : zu_m → Prop} (h : zl (zu_call (zt_T n) 112 [(40, 190), (0, 1)] t) (fun _ s => zfr [(28, 22), (28, 46), (28, 47), (117, 0), (118, 0), (119, 0), (121, 0)] t s ∧ P s)) : zl (zu_call (zt_T n) 117 [(40, 190)] t) (fun w t' => w = 1 ∧ ∃ s, P s ∧ zfr [(28, 22), (28, 46), (28, 47), (117, 0), (118, 0), (119, 0), (121, 0)] t s ∧ zfr zWB (zu_up (zu_up s 190 45 (zu_w32 (s 190 45 - 1))) 190 47 (zu_w32 (s 190 47 - 1))) t' ∧ zNX t t') := by
  refine zl_eq (zu_call_at (zt_T n) (zm_117 n) (zdp_117 n) _ _ _ _ _ rfl (zr_117_0 n _ _ 190 t)) ?_
  rw [zc_93, zu_bds, if_pos hk, if_neg (show ¬ (1 : Int) = 0 by decide), if_neg (show ¬ t 190 47 ≤ 0 by omega)]
  refine zl_bd (zl_mono h (fun _ s hs => ?_))
  obtain ⟨hf, hP⟩ := hs
  have e : (zu_up s 190 45 (zu_w32 (s 190 45 - 1))) 190 47 = s 190 47 := zu_up_ne (Or.inr (by decide))
  rw [e]
  generalize hm : zu_up (zu_up s 190 45 (zu_w32 (s 190 45 - 1))) 190 47 (zu_w32 (s 190 47 - 1)) = s2
  have hf2 : zfr [(28, 22), (28, 46), (28, 47), (28, 48), (117, 0), (118, 0), (119, 0), (121, 0)] t s2 := zfr_up hm (zfr_up rfl (zfr_tr (zfr_rf _ t) hf rfl) zq_190 rfl) zq_190 rfl
  refine zl_bd (zl_mono (zz_89 n hB hf2 rfl) (fun _ t' hs => ?_))
  refine zl_b (zl_some ⟨rfl, s, hP, hf, ?_, hs.2⟩)
  rw [hm]
  exact hs.1
theorem zz_117_147 (n : Nat) {t : zu_m} {k : Int} {Q : Int → zu_m → Prop} (hk : ¬ (t 190 8 = 4 ∧ t 190 9 = 41 ∧ 0 < t 190 47)) (hb : t 190 8 = 5 → 0 ≤ t 190 9 ∧ t 190 9 ≤ 5) (ho : zRk (t 190 8) (t 190 9) = k) (h : zl (zu_ex (zt_T n) 117 147 [(40, 190), (2, 0)] [(0, k)] t) Q) : zl (zu_call (zt_T n) 117 [(40, 190)] t) Q := by
  have g47 : zl (zu_ex (zt_T n) 117 47 [(40, 190), (2, 0)] [] t) Q := by
    refine zl_eq (zu_rega_at (zt_T n) (zm_117 n) (zdp_117 n) _ _ _ _ _ _ (zr_117_47 n _ _ 190 t)) ?_
    unfold zRk at ho
    rw [zc_92, zu_bds]
    by_cases h1 : t 190 8 = 1 ∧ t 190 9 = 23
    · rw [if_pos h1] at ho
      rw [if_pos h1, if_neg (show ¬ (1 : Int) = 0 by decide), ho]; exact h
    rw [if_neg h1] at ho
    rw [if_neg h1, if_pos (show (0 : Int) = 0 from rfl), zc_92, zu_bds]
    by_cases h2 : t 190 8 = 1 ∧ t 190 9 = 24
    · rw [if_pos h2] at ho
      rw [if_pos h2, if_neg (show ¬ (1 : Int) = 0 by decide), ho]; exact h
    rw [if_neg h2] at ho
    rw [if_neg h2, if_pos (show (0 : Int) = 0 from rfl)]
    by_cases h3 : t 190 8 = 5
    · rw [if_pos h3] at ho
      have hb' := hb h3
      rw [if_neg (fun q => q h3), zu_w32_id (z := 5 + t 190 9) (by omega) (by omega), ho]; exact h
    rw [if_neg h3] at ho
    rw [if_pos h3, zc_93, zu_bds]
    by_cases h4 : t 190 8 = 4 ∧ t 190 9 = 43
    · rw [if_pos h4] at ho
      rw [if_pos h4, if_neg (show ¬ (1 : Int) = 0 by decide), ho]; exact h
    rw [if_neg h4] at ho
    rw [if_neg h4, if_pos (show (0 : Int) = 0 from rfl), zc_93, zu_bds]
    by_cases h5 : t 190 8 = 4 ∧ t 190 9 = 45
    · rw [if_pos h5] at ho
      rw [if_pos h5, if_neg (show ¬ (1 : Int) = 0 by decide), ho]; exact h
    rw [if_neg h5] at ho
    rw [if_neg h5, if_pos (show (0 : Int) = 0 from rfl), zc_93, zu_bds]
    by_cases h6 : t 190 8 = 4 ∧ t 190 9 = 42
    · rw [if_pos h6] at ho
      rw [if_pos h6, if_neg (show ¬ (1 : Int) = 0 by decide), ho]; exact h
    rw [if_neg h6] at ho
    rw [if_neg h6, if_pos (show (0 : Int) = 0 from rfl), zc_93, zu_bds]
    by_cases h7 : t 190 8 = 4 ∧ t 190 9 = 47
    · rw [if_pos h7] at ho
      rw [if_pos h7, if_neg (show ¬ (1 : Int) = 0 by decide), ho]; exact h
    rw [if_neg h7] at ho
    rw [if_neg h7, if_pos (show (0 : Int) = 0 from rfl)]
    subst ho
    exact h
  refine zl_eq (zu_call_at (zt_T n) (zm_117 n) (zdp_117 n) _ _ _ _ _ rfl (zr_117_0 n _ _ 190 t)) ?_
  rw [zc_93, zu_bds]
  by_cases h1 : t 190 8 = 4 ∧ t 190 9 = 41
  · rw [if_pos h1, if_neg (show ¬ (1 : Int) = 0 by decide), if_pos (show t 190 47 ≤ 0 by omega)]
    exact g47
  · rw [if_neg h1, if_pos (show (0 : Int) = 0 from rfl)]
    exact g47
theorem zz_117_no (n : Nat) {t : zu_m} (hk : ¬ (t 190 8 = 4 ∧ t 190 9 = 41 ∧ 0 < t 190 47)) (hb : t 190 8 = 5 → 0 ≤ t 190 9 ∧ t 190 9 ≤ 5) (ho : zRk (t 190 8) (t 190 9) = 0) : zl (zu_call (zt_T n) 117 [(40, 190)] t) (fun w t' => w = 0 ∧ zFT t t' 1) := by
  refine zz_117_147 n hk hb ho ?_
  refine zl_eq (zu_rega_at (zt_T n) (zm_117 n) (zdp_117 n) _ _ _ _ _ _ (zr_117_147 n _ _ 190 0 t)) ?_
  rw [if_neg (show ¬ (0 : Int) ≠ 0 by decide), zc_85, zu_bds, zu_b0]
  exact zl_some ⟨rfl, zFT_R rfl⟩
/-- behind the bind: counted, on top, read on -/
theorem zz_117_217 (n : Nat) {t s : zu_m} {k : Int} (hB : zTB t) (hf : zfr [(28, 22), (28, 46), (28, 47), (117, 0), (118, 0), (119, 0), (121, 0)] t s) (hc : 0 ≤ s 190 48 ∧ s 190 48 ≤ 64) (hw : 0 ≤ s 190 45 ∧ s 190 45 < 96) : zl (zu_ex (zt_T n) 117 217 [(40, 190), (0, k)] [] s) (fun w t' => (s 190 48 = 64 ∧ w = 0 ∧ zFT t t' 2) ∨ (s 190 48 < 64 ∧ w = 1 ∧ t' 190 48 = s 190 48 + 1 ∧ t' 211 (s 190 45) = k ∧ (∀ i, i ≠ s 190 45 → t' 211 i = s 211 i) ∧ t' 190 45 = s 190 45 + 1 ∧ t' 190 49 = 1 ∧ t' 190 50 = (if 3 ≤ zrk k then 0 else 1) ∧ t' 190 47 = s 190 47 ∧ t' 190 5 = s 190 5 ∧ zNX t t')) := by
  refine zl_eq (zu_rega_at (zt_T n) (zm_117 n) (zdp_117 n) _ _ _ _ _ _ (zr_117_217 n _ _ 190 k s)) ?_
  by_cases h64 : s 190 48 = 64
  · rw [zc_113b n h64, zu_bds, if_neg (show ¬ (0 : Int) ≠ 0 by decide), zu_b0]
    exact zl_some (Or.inl ⟨h64, rfl, zFT_R (zfr_ap hf zq_190 rfl)⟩)
  rw [zc_113a n hc.1 (by omega), zu_bds, if_pos (show (1 : Int) ≠ 0 by decide)]
  generalize hm1 : zu_up s 190 48 (s 190 48 + 1) = s1
  have e45 : s1 190 45 = s 190 45 := zs_ne hm1 (Or.inr (by decide))
  rw [zc_114 n (by omega) (by omega), zu_bds, zu_b1, e45]
  generalize hm2 : zu_up s1 211 (s 190 45) k = s2
  generalize hm3 : zu_up s2 190 45 (s 190 45 + 1) = s3
  generalize hm4 : zu_up s3 190 49 1 = s4
  rw [zc_109, zu_bds]
  have hf4 : zfr [(28, 22), (28, 46), (28, 47), (117, 0), (118, 0), (119, 0), (121, 0), (28, 49), (120, 0), (28, 50)] t s4 := zfr_up hm4 (zfr_up hm3 (zfr_up hm2 (zfr_up hm1 (zfr_tr (zfr_rf _ t) hf rfl) zq_190 rfl) zq_211 rfl) zq_190 rfl) zq_190 rfl
  have fin : ∀ b : Int, (if 3 ≤ zrk k then (0 : Int) else 1) = b → zl (zu_bd (zu_call (zt_T n) 89 [(40, 190)] (zu_up s4 190 50 b)) (fun _ s254 => (zu_b 1 (some (1, s254))))) (fun w t' => (s 190 48 = 64 ∧ w = 0 ∧ zFT t t' 2) ∨ (s 190 48 < 64 ∧ w = 1 ∧ t' 190 48 = s 190 48 + 1 ∧ t' 211 (s 190 45) = k ∧ (∀ i, i ≠ s 190 45 → t' 211 i = s 211 i) ∧ t' 190 45 = s 190 45 + 1 ∧ t' 190 49 = 1 ∧ t' 190 50 = (if 3 ≤ zrk k then 0 else 1) ∧ t' 190 47 = s 190 47 ∧ t' 190 5 = s 190 5 ∧ zNX t t')) := fun b hb => by
    generalize hm5 : zu_up s4 190 50 b = s5
    have hf5 : zfr [(28, 22), (28, 46), (28, 47), (117, 0), (118, 0), (119, 0), (121, 0), (28, 49), (120, 0), (28, 50), (28, 51)] t s5 := zfr_up hm5 (zfr_tr (zfr_rf _ t) hf4 rfl) zq_190 rfl
    refine zl_bd (zl_mono (zz_89 n hB hf5 rfl) (fun _ t' hs => ?_))
    obtain ⟨g1, g2⟩ := hs
    refine zl_b (zl_some (Or.inr ⟨by omega, rfl, ?_, ?_, fun i hi => ?_, ?_, ?_, ?_, ?_, ?_, g2⟩))
    · exact (((((zfr_ap g1 zq_190 rfl).trans (zs_ne hm5 (Or.inr (by decide)))).trans (zs_ne hm4 (Or.inr (by decide)))).trans (zs_ne hm3 (Or.inr (by decide)))).trans (zs_ne hm2 (Or.inl (by decide)))).trans (zs_eq hm1)
    · exact ((((zfr_ap g1 zq_211 rfl).trans (zs_ne hm5 (Or.inl (by decide)))).trans (zs_ne hm4 (Or.inl (by decide)))).trans (zs_ne hm3 (Or.inl (by decide)))).trans (zs_eq hm2)
    · exact (((((zfr_ap g1 zq_211 rfl).trans (zs_ne hm5 (Or.inl (by decide)))).trans (zs_ne hm4 (Or.inl (by decide)))).trans (zs_ne hm3 (Or.inl (by decide)))).trans (zs_ne hm2 (Or.inr hi))).trans (zs_ne hm1 (Or.inl (by decide)))
    · exact (((zfr_ap g1 zq_190 rfl).trans (zs_ne hm5 (Or.inr (by decide)))).trans (zs_ne hm4 (Or.inr (by decide)))).trans (zs_eq hm3)
    · exact ((zfr_ap g1 zq_190 rfl).trans (zs_ne hm5 (Or.inr (by decide)))).trans (zs_eq hm4)
    · rw [hb]; exact (zfr_ap g1 zq_190 rfl).trans (zs_eq hm5)
    · exact (((((zfr_ap g1 zq_190 rfl).trans (zs_ne hm5 (Or.inr (by decide)))).trans (zs_ne hm4 (Or.inr (by decide)))).trans (zs_ne hm3 (Or.inr (by decide)))).trans (zs_ne hm2 (Or.inl (by decide)))).trans (zs_ne hm1 (Or.inr (by decide)))
    · exact (((((zfr_ap g1 zq_190 rfl).trans (zs_ne hm5 (Or.inr (by decide)))).trans (zs_ne hm4 (Or.inr (by decide)))).trans (zs_ne hm3 (Or.inr (by decide)))).trans (zs_ne hm2 (Or.inl (by decide)))).trans (zs_ne hm1 (Or.inr (by decide)))
  refine zl_ite (fun q => zl_b (fin 0 (if_pos q))) (fun q => zl_b (fin 1 (if_neg q)))

/-! what the reference does with a part of a formula -/
def zTB (t : zu_m) : Prop := 0 ≤ t 190 7 ∧ t 190 7 ≤ t 190 6 ∧ t 190 6 ≤ 700 ∧ zR_W2 t
/-- the reference has read on from where it stood -/
def zNX (t t' : zu_m) : Prop := zTR (t 191) (t 190 6) (t 190 7) (t' 190 8) (t' 190 9) (t' 190 10) (t' 190 7)
theorem zz_89 (n : Nat) {V : List (Nat × Nat)} {t t1 : zu_m} (h : zTB t) (hf : zfr V t t1) (hd : zdis V [(100, 0), (28, 7), (28, 8), (101, 0)] = true) : zl (zu_call (zt_T n) 89 [(40, 190)] t1) (fun _ t2 => zfr zWB t1 t2 ∧ zNX t t2) := by
  obtain ⟨h1, h2, h3, h4⟩ := h
  have e := zdis_fr hf hd
  have e191 : t1 191 = t 191 := funext (fun i => e 191 i (by rw [zq_191]; rfl))
  have e192 : ∀ i, t1 192 i = t 192 i := fun i => e 192 i (by rw [zq_192]; rfl)
  have e6 : t1 190 6 = t 190 6 := e 190 6 (by rw [zq_190]; rfl)
  have e7 : t1 190 7 = t 190 7 := e 190 7 (by rw [zq_190]; rfl)
  refine zl_mono (zl_of (zy_89 n (m := t1) ⟨by omega, by omega⟩ (by omega) (fun i i0 i1 => by rw [e192]; exact h4 i i0 i1))) (fun _ t2 hs => ?_)
  obtain ⟨g1, g2⟩ := hs
  rw [e191, e6, e7] at g2
  exact ⟨g1, g2⟩
theorem zz_116_open (n : Nat) {t : zu_m} (hB : zTB t) (hk : t 190 8 = 4 ∧ t 190 9 = 40) (hb : 0 ≤ t 190 47 ∧ t 190 47 ≤ 8) (hw : 0 ≤ t 190 45 ∧ t 190 45 < 96) : zl (zu_call (zt_T n) 116 [(40, 190)] t) (fun w t' => (t 190 47 = 8 ∧ w = 0 ∧ t' = zFR t 2) ∨ (t 190 47 ≠ 8 ∧ w = 1 ∧ t' 190 47 = t 190 47 + 1 ∧ t' 211 (t 190 45) = 0 ∧ (∀ i, i ≠ t 190 45 → t' 211 i = t 211 i) ∧ t' 190 45 = t 190 45 + 1 ∧ t' 190 50 = 1 ∧ zfr [(28, 48), (120, 0), (28, 46), (28, 51), (28, 8), (28, 9), (28, 10), (28, 11)] t t' ∧ zNX t t')) := by
  refine zl_eq (zu_call_at (zt_T n) (zm_116 n) (zdp_116 n) _ _ _ _ _ rfl (zs_116_0 n _ _ t)) ?_
  rw [zc_93, zu_bds, if_pos hk, if_neg (show ¬ (1 : Int) = 0 by decide)]
  by_cases h8 : t 190 47 = 8
  · rw [if_neg (fun q => q h8), zc_85, zu_bds, zu_b0]
    exact zl_some (Or.inl ⟨h8, rfl, rfl⟩)
  rw [if_pos h8, zu_w32_id (z := t 190 47 + 1) (by omega) (by omega)]
  generalize hm1 : zu_up t 190 47 (t 190 47 + 1) = t1
  have e45 : t1 190 45 = t 190 45 := zs_ne hm1 (Or.inr (by decide))
  rw [zc_114 n (by omega) (by omega), zu_bds, zu_b1, e45]
  generalize hm2 : zu_up t1 211 (t 190 45) 0 = t2
  generalize hm3 : zu_up t2 190 45 (t 190 45 + 1) = t3
  generalize hm4 : zu_up t3 190 50 1 = t4
  have hf4 : zfr [(28, 48), (120, 0), (28, 46), (28, 51)] t t4 := zfr_up hm4 (zfr_up hm3 (zfr_up hm2 (zfr_up hm1 (zfr_rf _ _) zq_190 rfl) zq_211 rfl) zq_190 rfl) zq_190 rfl
  refine zl_bd (zl_mono (zz_89 n hB hf4 rfl) (fun _ t5 hs => ?_))
  obtain ⟨g1, g2⟩ := hs
  rw [zu_b1]
  refine zl_some (Or.inr ⟨h8, rfl, ?_, ?_, fun i hi => ?_, ?_, ?_, zfr_tr (zfr_tr (zfr_rf _ t) hf4 rfl) g1 rfl, g2⟩)
  · exact ((((zfr_ap g1 zq_190 rfl).trans (zs_ne hm4 (Or.inr (by decide)))).trans (zs_ne hm3 (Or.inr (by decide)))).trans (zs_ne hm2 (Or.inl (by decide)))).trans (zs_eq hm1)
  · exact (((zfr_ap g1 zq_211 rfl).trans (zs_ne hm4 (Or.inl (by decide)))).trans (zs_ne hm3 (Or.inl (by decide)))).trans (zs_eq hm2)
  · exact ((((zfr_ap g1 zq_211 rfl).trans (zs_ne hm4 (Or.inl (by decide)))).trans (zs_ne hm3 (Or.inl (by decide)))).trans (zs_ne hm2 (Or.inr hi))).trans (zs_ne hm1 (Or.inl (by decide)))
  · exact ((zfr_ap g1 zq_190 rfl).trans (zs_ne hm4 (Or.inr (by decide)))).trans (zs_eq hm3)
  · exact (zfr_ap g1 zq_190 rfl).trans (zs_eq hm4)
theorem zz_116_not (n : Nat) {t : zu_m} (hB : zTB t) (hk : t 190 8 = 1 ∧ t 190 9 = 25) (hd : t 190 50 ≠ 0) (hb : 0 ≤ t 190 48 ∧ t 190 48 ≤ 64) (hw : 0 ≤ t 190 45 ∧ t 190 45 < 96) : zl (zu_call (zt_T n) 116 [(40, 190)] t) (fun w t' => (t 190 48 = 64 ∧ w = 0 ∧ t' = zFR t 2) ∨ (t 190 48 < 64 ∧ w = 1 ∧ t' 190 48 = t 190 48 + 1 ∧ t' 211 (t 190 45) = 2 ∧ (∀ i, i ≠ t 190 45 → t' 211 i = t 211 i) ∧ t' 190 45 = t 190 45 + 1 ∧ zfr [(28, 49), (120, 0), (28, 46), (28, 8), (28, 9), (28, 10), (28, 11)] t t' ∧ zNX t t')) := by
  refine zl_eq (zu_call_at (zt_T n) (zm_116 n) (zdp_116 n) _ _ _ _ _ rfl (zs_116_0 n _ _ t)) ?_
  rw [zc_93, zu_bds, if_neg (show ¬ (t 190 8 = 4 ∧ t 190 9 = 40) by omega), if_pos (show (0 : Int) = 0 from rfl)]
  refine zl_eq (zu_rega_at (zt_T n) (zm_116 n) (zdp_116 n) _ _ _ _ _ _ (zs_116_50 n _ _ t)) ?_
  rw [zc_92, zu_bds, if_pos hk, if_neg (show ¬ (1 : Int) = 0 by decide), if_neg hd]
  by_cases h64 : t 190 48 = 64
  · rw [zc_113b n h64, zu_bds, if_neg (show ¬ (0 : Int) ≠ 0 by decide), zu_b0]
    exact zl_some (Or.inl ⟨h64, rfl, rfl⟩)
  rw [zc_113a n hb.1 (by omega), zu_bds, if_pos (show (1 : Int) ≠ 0 by decide)]
  generalize hm1 : zu_up t 190 48 (t 190 48 + 1) = t1
  have e45 : t1 190 45 = t 190 45 := zs_ne hm1 (Or.inr (by decide))
  rw [zc_114 n (by omega) (by omega), zu_bds, e45]
  generalize hm2 : zu_up t1 211 (t 190 45) 2 = t2
  generalize hm3 : zu_up t2 190 45 (t 190 45 + 1) = t3
  have hf3 : zfr [(28, 49), (120, 0), (28, 46)] t t3 := zfr_up hm3 (zfr_up hm2 (zfr_up hm1 (zfr_rf _ _) zq_190 rfl) zq_211 rfl) zq_190 rfl
  refine zl_bd (zl_mono (zz_89 n hB hf3 rfl) (fun _ t5 hs => ?_))
  obtain ⟨g1, g2⟩ := hs
  rw [zu_b1]
  refine zl_some (Or.inr ⟨by omega, rfl, ?_, ?_, fun i hi => ?_, ?_, zfr_tr (zfr_tr (zfr_rf _ t) hf3 rfl) g1 rfl, g2⟩)
  · exact (((zfr_ap g1 zq_190 rfl).trans (zs_ne hm3 (Or.inr (by decide)))).trans (zs_ne hm2 (Or.inl (by decide)))).trans (zs_eq hm1)
  · exact ((zfr_ap g1 zq_211 rfl).trans (zs_ne hm3 (Or.inl (by decide)))).trans (zs_eq hm2)
  · exact (((zfr_ap g1 zq_211 rfl).trans (zs_ne hm3 (Or.inl (by decide)))).trans (zs_ne hm2 (Or.inr hi))).trans (zs_ne hm1 (Or.inl (by decide)))
  · exact (zfr_ap g1 zq_190 rfl).trans (zs_eq hm3)
/-- no '(' and no word not that may stand here: on to the leaves -/
theorem zz_116_86 (n : Nat) {t : zu_m} {Q : Int → zu_m → Prop} (h1 : ¬ (t 190 8 = 4 ∧ t 190 9 = 40)) (h2 : ¬ (t 190 8 = 1 ∧ t 190 9 = 25 ∧ t 190 50 ≠ 0)) (h : zl (zu_ex (zt_T n) 116 86 [(40, 190), (2, 0)] [] t) Q) : zl (zu_call (zt_T n) 116 [(40, 190)] t) Q := by
  refine zl_eq (zu_call_at (zt_T n) (zm_116 n) (zdp_116 n) _ _ _ _ _ rfl (zs_116_0 n _ _ t)) ?_
  rw [zc_93, zu_bds, if_neg h1, if_pos (show (0 : Int) = 0 from rfl)]
  refine zl_eq (zu_rega_at (zt_T n) (zm_116 n) (zdp_116 n) _ _ _ _ _ _ (zs_116_50 n _ _ t)) ?_
  rw [zc_92, zu_bds]
  by_cases h3 : t 190 8 = 1 ∧ t 190 9 = 25
  · rw [if_pos h3, if_neg (show ¬ (1 : Int) = 0 by decide), if_pos (by omega)]
    exact h
  · rw [if_neg h3, if_pos (show (0 : Int) = 0 from rfl)]
    exact h

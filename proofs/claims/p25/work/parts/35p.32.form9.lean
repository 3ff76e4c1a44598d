/-! behind a part: the reference joins -/
theorem zz_117_op (n : Nat) {t : zu_m} {k : Int} {Q : Int → zu_m → Prop} (hk : ¬ (t 190 8 = 4 ∧ t 190 9 = 41 ∧ 0 < t 190 47)) (hb : t 190 8 = 5 → 0 ≤ t 190 9 ∧ t 190 9 ≤ 5) (ho : zRk (t 190 8) (t 190 9) = k) (hk0 : k ≠ 0) (h : zl (zu_call (zt_T n) 112 [(40, 190), (0, if zrk k = 4 then 5 else zrk k)] t) (fun _ s => 0 ≤ s 190 45 ∧ s 190 45 ≤ 96 ∧ ((zrk k = 4 ∧ 0 < s 190 45 ∧ zrk (s 211 (s 190 45 - 1)) = 4) → Q 0 (zFR s 1)) ∧ (¬ (zrk k = 4 ∧ 0 < s 190 45 ∧ zrk (s 211 (s 190 45 - 1)) = 4) → zl (zu_ex (zt_T n) 117 217 [(40, 190), (0, k)] [] s) Q))) : zl (zu_call (zt_T n) 117 [(40, 190)] t) Q := by
  refine zz_117_147 n hk hb ho ?_
  refine zl_eq (zu_rega_at (zt_T n) (zm_117 n) (zdp_117 n) _ _ _ _ _ _ (zr_117_147 n _ _ 190 k t)) ?_
  rw [if_pos hk0, zc_109, zu_bds]
  by_cases h4 : zrk k = 4
  · rw [if_pos h4] at h
    rw [if_neg (fun q => q h4)]
    refine zl_bd (zl_mono h (fun _ s hs => ?_))
    obtain ⟨s0, s96, sA, sB⟩ := hs
    rw [zc_109, zu_bds, if_neg (fun q => q h4)]
    refine zl_ite (fun q => sB (by omega)) (fun q => ?_)
    rw [zu_w32_id (z := s 190 45 - 1) (by omega) (by omega)]
    refine zl_if (fun _ => ?_)
    rw [zc_109, zu_bds]
    refine zl_ite (fun q2 => sB (fun q3 => q2 q3.2.2)) (fun q2 => ?_)
    rw [zc_85, zu_bds, zu_b0]
    exact zl_some (sA ⟨h4, by omega, Decidable.not_not.mp q2⟩)
  · rw [if_neg h4] at h
    rw [if_pos h4, zc_109, zu_bds]
    refine zl_bd (zl_mono h (fun _ s hs => ?_))
    obtain ⟨s0, s96, sA, sB⟩ := hs
    rw [zc_109, zu_bds, if_pos h4]
    exact sB (fun q => h4 q.1)

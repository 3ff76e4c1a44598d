/-! behind a part: the class joins -/
def zCm (c : Int) : Int := if c < 7 then 0 else if 12 < c then 0 else 1
def zJn (c : Int) : Int := if c = 13 then 1 else if c ≠ 14 then 0 else 1
def zFg (cm j x : Int) : Int := if cm ≠ 0 then 1 else if j ≠ 0 then 0 else if x = 0 then 0 else 1
theorem zz_202_67 (n : Nat) {m : zu_m} {c : Int} {Q : Int → zu_m → Prop} (hk : ¬ (m 45 4 = 4 ∧ m 45 5 = 2 ∧ 0 < m 47 4)) (ho : zOp (m 45 4) (m 45 5) = c) (h : zl (zu_ex (zt_T n) 202 67 [(24, 47), (0, c), (2, 0), (2, 0)] [(0, zCm c)] m) Q) : zl (zu_call (zt_T n) 202 [(24, 47)] m) Q := by
  refine zl_eq (zu_call_at (zt_T n) (zm_202 n) (zdp_202 n) _ _ _ _ _ rfl (zr_202_0 n _ _ 47 m)) ?_
  have g : zl (if c < 7 then (zu_ex (zt_T n) 202 67 [(24, 47), (0, c), (2, 0), (2, 0)] [(0, 0)] m) else (if 12 < c then (zu_ex (zt_T n) 202 67 [(24, 47), (0, c), (2, 0), (2, 0)] [(0, 0)] m) else (zu_ex (zt_T n) 202 67 [(24, 47), (0, c), (2, 0), (2, 0)] [(0, 1)] m))) Q := by
    refine zl_eq (y := zu_ex (zt_T n) 202 67 [(24, 47), (0, c), (2, 0), (2, 0)] [(0, zCm c)] m) ?_ h
    unfold zCm
    split
    · rfl
    · split <;> rfl
  rw [zc_278, zu_bds]
  by_cases h1 : m 45 4 = 4 ∧ m 45 5 = 2
  · rw [if_pos h1, if_neg (show ¬ (1 : Int) = 0 by decide), if_pos (show m 47 4 ≤ 0 by omega), zc_203, zu_bds, ho]
    exact g
  · rw [if_neg h1, if_pos (show (0 : Int) = 0 from rfl), zc_203, zu_bds, ho]
    exact g
theorem zz_202_cmp (n : Nat) {m : zu_m} {c : Int} (hk : ¬ (m 45 4 = 4 ∧ m 45 5 = 2 ∧ 0 < m 47 4)) (ho : zOp (m 45 4) (m 45 5) = c) (hc : c ≠ -1) (hm : zCm c ≠ 0) (hf : m 49 (m 47 4) ≠ 0) : zl (zu_call (zt_T n) 202 [(24, 47)] m) (fun v _ => v = 1) := by
  refine zz_202_67 n hk ho ?_
  refine zl_eq (zu_rega_at (zt_T n) (zm_202 n) (zdp_202 n) _ _ _ _ _ _ (zr_202_67 n _ _ 47 c (zCm c) m)) ?_
  rw [if_neg hc, if_neg hm]
  refine zl_if (fun _ => ?_)
  rw [if_neg hf]
  exact zl_some rfl
theorem zz_202_full (n : Nat) {m : zu_m} {c : Int} (hk : ¬ (m 45 4 = 4 ∧ m 45 5 = 2 ∧ 0 < m 47 4)) (ho : zOp (m 45 4) (m 45 5) = c) (hc : c ≠ -1) (hf : zCm c = 0 ∨ m 49 (m 47 4) = 0) (h64 : ¬ m 10 5 < 64) : zl (zu_call (zt_T n) 202 [(24, 47)] m) (fun v _ => v = 2) := by
  refine zz_202_67 n hk ho ?_
  refine zl_eq (zu_rega_at (zt_T n) (zm_202 n) (zdp_202 n) _ _ _ _ _ _ (zr_202_67 n _ _ 47 c (zCm c) m)) ?_
  rw [if_neg hc, zc_204b n h64, zu_bds, if_neg (show ¬ (0 : Int) ≠ 0 by decide)]
  refine zl_ite (fun _ => zl_some rfl) (fun q => zl_if (fun _ => zl_ite (fun _ => zl_some rfl) (fun q2 => ?_)))
  rcases hf with hf | hf
  · exact absurd hf q
  · exact absurd hf q2
theorem zz_202_op (n : Nat) {m m1 m2 : zu_m} {c : Int} (hk : ¬ (m 45 4 = 4 ∧ m 45 5 = 2 ∧ 0 < m 47 4)) (ho : zOp (m 45 4) (m 45 5) = c) (hc : c ≠ -1) (hf : zCm c = 0 ∨ m 49 (m 47 4) = 0) (h0 : 0 ≤ m 10 5) (h64 : m 10 5 < 64) (hm1 : zu_up m 10 5 (m 10 5 + 1) = m1) (hm2 : zu_up (zu_up (zu_up m1 49 (m 47 4) (zFg (zCm c) (zJn c) (m 49 (m 47 4)))) 47 6 1) 47 7 (zJn c) = m2) {P : zu_m → Prop} (h : zl (zu_call (zt_T n) 206 [(24, 47), (0, m2 2 c)] m2) (fun _ m3 => 0 ≤ m3 47 3 ∧ m3 47 3 < 72 ∧ P (zu_up (zu_up m3 48 (m3 47 3) c) 47 3 (m3 47 3 + 1)))) : zl (zu_call (zt_T n) 202 [(24, 47)] m) (fun v m' => v = 0 ∧ P m') := by
  have e49 : ∀ i, m1 49 i = m 49 i := fun i => zs_ne hm1 (Or.inl (by decide))
  have e474 : m1 47 4 = m 47 4 := zs_ne hm1 (Or.inl (by decide))
  refine zz_202_67 n hk ho ?_
  refine zl_eq (zu_rega_at (zt_T n) (zm_202 n) (zdp_202 n) _ _ _ _ _ _ (zr_202_67 n _ _ 47 c (zCm c) m)) ?_
  rw [if_neg hc, zc_204a n h0 h64, zu_bds, if_pos (show (1 : Int) ≠ 0 by decide), hm1]
  have g151 : zl (zu_ex (zt_T n) 202 151 [(24, 47), (0, c), (0, zCm c), (0, zJn c)] [(0, zFg (zCm c) (zJn c) (m 49 (m 47 4))), (0, m 47 4), (26, 49)] m1) (fun v m' => v = 0 ∧ P m') := by
    refine zl_eq (zu_rega_at (zt_T n) (zm_202 n) (zdp_202 n) _ _ _ _ _ _ (zr_202_151 n _ _ 47 c (zCm c) (zJn c) (zFg (zCm c) (zJn c) (m 49 (m 47 4))) (m 47 4) 49 m1)) ?_
    rw [hm2]
    refine zl_b (zl_if (fun _ => zl_b (zl_b (zl_if (fun _ => zl_bd (zl_mono h (fun _ m3 hs => ?_)))))))
    rw [zc_205 n hs.1 hs.2.1, zu_bds]
    exact zl_some ⟨rfl, hs.2.2⟩
  have g117 : zl (zu_ex (zt_T n) 202 117 [(24, 47), (0, c), (0, zCm c), (2, 0)] [(0, zJn c)] m1) (fun v m' => v = 0 ∧ P m') := by
    refine zl_eq (zu_rega_at (zt_T n) (zm_202 n) (zdp_202 n) _ _ _ _ _ _ (zr_202_117 n _ _ 47 c (zCm c) (zJn c) m1)) ?_
    rw [e474, e49]
    unfold zFg at g151
    refine zl_ite (fun q => ?_) (fun q => zl_ite (fun q2 => ?_) (fun q2 => zl_if (fun _ => zl_ite (fun q3 => ?_) (fun q3 => ?_))))
    · rw [if_pos q] at g151; exact g151
    · rw [if_neg q, if_pos q2] at g151; exact g151
    · rw [if_neg q, if_neg q2, if_pos q3] at g151; exact g151
    · rw [if_neg q, if_neg q2, if_neg q3] at g151; exact g151
  have gJ : zl (if c = 13 then (zu_ex (zt_T n) 202 117 [(24, 47), (0, c), (0, zCm c), (2, 0)] [(0, 1)] m1) else (if c ≠ 14 then (zu_ex (zt_T n) 202 117 [(24, 47), (0, c), (0, zCm c), (2, 0)] [(0, 0)] m1) else (zu_ex (zt_T n) 202 117 [(24, 47), (0, c), (0, zCm c), (2, 0)] [(0, 1)] m1))) (fun v m' => v = 0 ∧ P m') := by
    refine zl_eq (y := zu_ex (zt_T n) 202 117 [(24, 47), (0, c), (0, zCm c), (2, 0)] [(0, zJn c)] m1) ?_ g117
    unfold zJn
    split
    · rfl
    · split <;> rfl
  refine zl_ite (fun _ => gJ) (fun q => zl_if (fun _ => zl_ite (fun _ => gJ) (fun q2 => ?_)))
  rcases hf with hf | hf
  · exact absurd hf q
  · exact absurd hf q2

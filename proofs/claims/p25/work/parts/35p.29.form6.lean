/-! behind a part: the class -/
def zOp (k v : Int) : Int := if k = 1 ∧ v = 23 then 13 else if k = 1 ∧ v = 24 then 14 else if k = 4 ∧ 3 ≤ v then v else -1
theorem zc_203 (n : Nat) (m : zu_m) : zu_call (zt_T n) 203 [(24, 47)] m = some (zOp (m 45 4) (m 45 5), m) := by
  rw [zu_call_at (zt_T n) (zm_203 n) (zdp_203 n) _ _ _ _ _ rfl (zr_203_0 n _ _ 47 m), zc_279q n m (by decide) (by decide) (by decide) (by decide), zu_bds]
  unfold zOp
  by_cases h1 : m 45 4 = 1 ∧ m 45 5 = 23
  · rw [if_pos (show m 45 4 = 1 ∧ 23 ≤ m 45 5 ∧ m 45 5 < 23 + 1 by omega), if_neg (show ¬ (1 : Int) = 0 by decide), if_pos h1]
  · rw [if_neg (show ¬ (m 45 4 = 1 ∧ 23 ≤ m 45 5 ∧ m 45 5 < 23 + 1) by omega), if_pos (show (0 : Int) = 0 from rfl), if_neg h1, zc_279q n m (by decide) (by decide) (by decide) (by decide), zu_bds]
    by_cases h2 : m 45 4 = 1 ∧ m 45 5 = 24
    · rw [if_pos (show m 45 4 = 1 ∧ 24 ≤ m 45 5 ∧ m 45 5 < 24 + 1 by omega), if_neg (show ¬ (1 : Int) = 0 by decide), if_pos h2]
    · rw [if_neg (show ¬ (m 45 4 = 1 ∧ 24 ≤ m 45 5 ∧ m 45 5 < 24 + 1) by omega), if_pos (show (0 : Int) = 0 from rfl), if_neg h2]
      by_cases h3 : m 45 4 = 4
      · rw [if_neg (fun q => q h3)]
        by_cases h4 : m 45 5 < 3
        · rw [if_pos h4, if_neg (show ¬ (m 45 4 = 4 ∧ 3 ≤ m 45 5) by omega)]
        · rw [if_neg h4, if_pos (show m 45 4 = 4 ∧ 3 ≤ m 45 5 by omega)]
      · rw [if_pos h3, if_neg (show ¬ (m 45 4 = 4 ∧ 3 ≤ m 45 5) by omega)]
theorem zz_202_close (n : Nat) {m : zu_m} (hk : m 45 4 = 4 ∧ m 45 5 = 2) (ho : 0 < m 47 4) {P : zu_m → Prop} (h : zl (zu_call (zt_T n) 206 [(24, 47), (0, 1)] m) (fun _ m1 => P (zu_up (zu_up m1 47 3 (zu_w32 (m1 47 3 - 1))) 47 4 (zu_w32 (m1 47 4 - 1))))) : zl (zu_call (zt_T n) 202 [(24, 47)] m) (fun v m' => v = 0 ∧ P m') := by
  refine zl_eq (zu_call_at (zt_T n) (zm_202 n) (zdp_202 n) _ _ _ _ _ rfl (zr_202_0 n _ _ 47 m)) ?_
  rw [zc_278, zu_bds, if_pos hk, if_neg (show ¬ (1 : Int) = 0 by decide), if_neg (show ¬ m 47 4 ≤ 0 by omega)]
  refine zl_bd (zl_mono h (fun _ m1 hs => ?_))
  have e : (zu_up m1 47 3 (zu_w32 (m1 47 3 - 1))) 47 4 = m1 47 4 := zu_up_ne (Or.inr (by decide))
  rw [e]
  exact zl_some ⟨rfl, hs⟩
/-- no sign that joins -/
theorem zz_202_no (n : Nat) {m : zu_m} (hk : ¬ (m 45 4 = 4 ∧ m 45 5 = 2 ∧ 0 < m 47 4)) (ho : zOp (m 45 4) (m 45 5) = -1) : zl (zu_call (zt_T n) 202 [(24, 47)] m) (fun v _ => v = 1) := by
  have g : zl (zu_ex (zt_T n) 202 67 [(24, 47), (0, -1), (2, 0), (2, 0)] [(0, 0)] m) (fun v _ => v = 1) := by
    refine zl_eq (zu_rega_at (zt_T n) (zm_202 n) (zdp_202 n) _ _ _ _ _ _ (zr_202_67 n _ _ 47 (-1) 0 m)) ?_
    rw [if_pos rfl]
    exact zl_some rfl
  refine zl_eq (zu_call_at (zt_T n) (zm_202 n) (zdp_202 n) _ _ _ _ _ rfl (zr_202_0 n _ _ 47 m)) ?_
  rw [zc_278, zu_bds]
  by_cases h1 : m 45 4 = 4 ∧ m 45 5 = 2
  · rw [if_pos h1, if_neg (show ¬ (1 : Int) = 0 by decide), if_pos (show m 47 4 ≤ 0 by omega), zc_203, zu_bds, ho, if_pos (show (-1 : Int) < 7 by decide)]
    exact g
  · rw [if_neg h1, if_pos (show (0 : Int) = 0 from rfl), zc_203, zu_bds, ho, if_pos (show (-1 : Int) < 7 by decide)]
    exact g

/-! the class's Laws.valueOf works out the pure value: steps -/
theorem zvd_b {A : Int} (hA : 0 < A) : 0 ≤ Int.tdiv 1000000000000 A ∧ Int.tdiv 1000000000000 A ≤ 1000000000000 := by
  rw [Int.tdiv_eq_ediv_of_nonneg (by decide)]
  exact ⟨Int.ediv_nonneg (by decide) (Int.le_of_lt hA), Int.ediv_le_self _ (by decide)⟩
theorem zvm_b {A B : Int} (hA : 0 < A) (hB : 0 < B) (h : B ≤ zu_w64 (Int.tdiv 1000000000000 A)) : 0 < A * B ∧ A * B ≤ 1000000000000 := by
  obtain ⟨h1, h2⟩ := zvd_b hA
  rw [zu_w64_id (Int.le_trans (by decide) h1) (Int.le_trans h2 (by decide)), Int.tdiv_eq_ediv_of_nonneg (by decide)] at h
  have := (Int.le_ediv_iff_mul_le hA).mp h
  rw [Int.mul_comm] at this
  exact ⟨Int.mul_pos hA hB, this⟩
theorem zvm_p {A B P : Int} (hA : 0 < A) (hB : 0 < B) (h : B ≤ zu_w64 (Int.tdiv 1000000000000 A)) (hP : A * B = P ∨ A * B = -P) : -1000000000000 ≤ zu_w64 P ∧ zu_w64 P ≤ 1000000000000 := by
  obtain ⟨h1, h2⟩ := zvm_b hA hB h
  generalize A * B = Q at *
  rw [zu_w64_id (by omega) (by omega)]
  omega
theorem zvt_b {a b : Int} (h1 : -1000000000000 ≤ a) (h2 : a ≤ 1000000000000) : -1000000000000 ≤ Int.tdiv a b ∧ Int.tdiv a b ≤ 1000000000000 := by
  have h3 : (Int.tdiv a b).natAbs ≤ a.natAbs := by
    rw [Int.natAbs_tdiv]
    exact Nat.div_le_self _ _
  omega
def zvin (v : Int) : Prop := -1000000000000 ≤ v ∧ v ≤ 1000000000000
def zvR (r a b v : Int) : Prop := (zvop r a b = none ∧ ¬ zvin v) ∨ (zvop r a b = some v ∧ zvin v)
theorem zvR_lim {x : Int} (h : True) : (zvlim x = none ∧ ¬ zvin x) ∨ (zvlim x = some x ∧ zvin x) := by
  unfold zvlim zvin
  by_cases h1 : 1000000000000 < x
  · rw [if_pos h1]
    exact Or.inl ⟨rfl, by omega⟩
  · rw [if_neg h1]
    by_cases h2 : -1000000000000 ≤ x
    · rw [if_pos h2]
      exact Or.inr ⟨rfl, by omega⟩
    · rw [if_neg h2]
      exact Or.inl ⟨rfl, by omega⟩
theorem zv_208 (n : Nat) {c r a b : Int} {m : zu_m} (hc : zoq c r) (h3 : 3 ≤ r) (h6 : c ≤ 6) (ha : zvin a) (hb : zvin b) : zw (zu_call (zt_T n) 208 [(0, c), (1, a), (1, b)] m) (fun v m' => m' = m ∧ zvR r a b v) := by
  have hq : (c = 3 ∧ r = 11) ∨ (c = 4 ∧ r = 12) ∨ (c = 5 ∧ r = 13) ∨ (c = 6 ∧ r = 14) := by
    unfold zoq at hc
    omega
  refine zw_eq (zu_call_at (zt_T n) (zm_208 n) (zdp_208 n) _ _ _ _ _ rfl (zr_208_0 n _ _ c a b m)) ?_
  simp only [zlc_ge, zlc_gt, zlc_ne, zlc_eq, zlc_lt, zlc_le]
  have z0 : zvin 0 := ⟨by decide, by decide⟩
  have bad : zvin (-9223372036854775808) → False := fun h => absurd h.1 (by decide)
  unfold zvin at ha hb
  rcases hq with ⟨rfl, rfl⟩ | ⟨rfl, rfl⟩ | ⟨rfl, rfl⟩ | ⟨rfl, rfl⟩
  · rw [if_pos rfl]
    exact zw_some ⟨rfl, zvR_lim trivial⟩
  · rw [if_neg (show ¬ (4 : Int) = 3 by decide), if_pos rfl]
    exact zw_some ⟨rfl, zvR_lim trivial⟩
  · rw [if_neg (show ¬ (5 : Int) = 3 by decide), if_neg (show ¬ (5 : Int) = 4 by decide), if_pos rfl]
    have zo : zvop 13 a b = zvmul a b := rfl
    refine zw_ite (fun a0 => zw_some ⟨rfl, Or.inr ⟨?_, z0⟩⟩) (fun a0 => ?_)
    · rw [zo]
      exact if_pos a0
    refine zw_ite (fun b0 => ?_) (fun b0 => zw_some ⟨rfl, Or.inr ⟨?_, z0⟩⟩)
    · have e0 : zvop 13 a b = if zvab b ≤ zu_w64 (Int.tdiv 1000000000000 (zvab a)) then some (zu_w64 (a * b)) else none := by
        rw [zo]
        unfold zvmul
        rw [if_neg a0, if_neg b0]
      have go : ∀ {A B : Int}, zvab a = A → zvab b = B → 0 < A → 0 < B → (A * B = a * b ∨ A * B = -(a * b)) → zw (if B ≤ zu_w64 (Int.tdiv 1000000000000 A) then (some (zu_w64 (a * b), m)) else (some (-9223372036854775808, m))) (fun v m' => m' = m ∧ zvR 13 a b v) := fun hA hB pA pB hP => by
        rw [hA, hB] at e0
        refine zw_ite (fun h => zw_some ⟨rfl, Or.inr ⟨?_, zvm_p pA pB h hP⟩⟩) (fun h => zw_some ⟨rfl, Or.inl ⟨?_, bad⟩⟩)
        · rw [e0, if_pos h]
        · rw [e0, if_neg h]
      have na : zu_w64 (-a) = -a := zu_w64_id (by omega) (by omega)
      have nb : zu_w64 (-b) = -b := zu_w64_id (by omega) (by omega)
      refine zw_ite (fun h1 => zw_ite (fun h2 => ?_) (fun h2 => ?_)) (fun h1 => zw_ite (fun h2 => ?_) (fun h2 => ?_))
      · rw [if_neg a0]
        exact go (if_pos h2) (if_pos h1) (by omega) (by omega) (Or.inl rfl)
      · rw [na, if_neg (show ¬ -a = 0 by omega)]
        exact go ((if_neg h2).trans na) (if_pos h1) (by omega) (by omega) (Or.inr (Int.neg_mul _ _))
      · rw [if_neg a0, nb]
        exact go (if_pos h2) ((if_neg h1).trans nb) (by omega) (by omega) (Or.inr (Int.mul_neg _ _))
      · rw [na, nb, if_neg (show ¬ -a = 0 by omega)]
        exact go ((if_neg h2).trans na) ((if_neg h1).trans nb) (by omega) (by omega) (Or.inl (Int.neg_mul_neg _ _))
    · rw [zo]
      unfold zvmul
      rw [if_neg a0, if_pos (Decidable.not_not.mp b0)]
  · rw [if_neg (show ¬ (6 : Int) = 3 by decide), if_neg (show ¬ (6 : Int) = 4 by decide), if_neg (show ¬ (6 : Int) = 5 by decide)]
    have zo : zvop 14 a b = zvdiv a b := rfl
    refine zw_ite (fun b0 => ?_) (fun b0 => zw_some ⟨rfl, Or.inl ⟨?_, bad⟩⟩)
    · rw [if_neg b0]
      have hb2 := zvt_b (b := b) ha.1 ha.2
      refine zw_some ⟨rfl, Or.inr ⟨?_, ?_⟩⟩
      · rw [zo]
        exact if_neg b0
      · unfold zvin
        rw [zu_w64_id (by omega) (by omega)]
        exact hb2
    · rw [zo]
      exact if_pos (Decidable.not_not.mp b0)
theorem zv_209 (n : Nat) {c r a b : Int} {m : zu_m} (hc : zoq c r) (h3 : 3 ≤ r) (h6 : 6 < c) : zw (zu_call (zt_T n) 209 [(0, c), (1, a), (1, b)] m) (fun v m' => m' = m ∧ (v = 0 ∨ v = 1) ∧ zvop r a b = some v) := by
  have hq : (c = 7 ∧ r = 5) ∨ (c = 8 ∧ r = 6) ∨ (c = 9 ∧ r = 7) ∨ (c = 10 ∧ r = 8) ∨ (c = 11 ∧ r = 9) ∨ (c = 12 ∧ r = 10) ∨ (c = 13 ∧ r = 4) ∨ (c = 14 ∧ r = 3) := by
    unfold zoq at hc
    omega
  refine zw_eq (zu_call_at (zt_T n) (zm_209 n) (zdp_209 n) _ _ _ _ _ rfl (zr_209_0 n _ _ c a b m)) ?_
  simp only [zlc_ge, zlc_gt, zlc_ne, zlc_eq, zlc_lt, zlc_le, zu_b0, zu_b1]
  rcases hq with ⟨rfl, rfl⟩ | ⟨rfl, rfl⟩ | ⟨rfl, rfl⟩ | ⟨rfl, rfl⟩ | ⟨rfl, rfl⟩ | ⟨rfl, rfl⟩ | ⟨rfl, rfl⟩ | ⟨rfl, rfl⟩
  · rw [show zvop 5 a b = some (if b ≤ a then 0 else 1) from rfl]
    show zw (if b ≤ a then some (0, m) else some (1, m)) _
    exact zw_ite (fun h => zw_some ⟨rfl, Or.inl rfl, by rw [if_pos h]⟩) (fun h => zw_some ⟨rfl, Or.inr rfl, by rw [if_neg h]⟩)
  · rw [show zvop 6 a b = some (if b < a then 0 else 1) from rfl]
    show zw (if b < a then some (0, m) else some (1, m)) _
    exact zw_ite (fun h => zw_some ⟨rfl, Or.inl rfl, by rw [if_pos h]⟩) (fun h => zw_some ⟨rfl, Or.inr rfl, by rw [if_neg h]⟩)
  · rw [show zvop 7 a b = some (if a ≠ b then 0 else 1) from rfl]
    show zw (if a ≠ b then some (0, m) else some (1, m)) _
    exact zw_ite (fun h => zw_some ⟨rfl, Or.inl rfl, by rw [if_pos h]⟩) (fun h => zw_some ⟨rfl, Or.inr rfl, by rw [if_neg h]⟩)
  · rw [show zvop 8 a b = some (if a = b then 0 else 1) from rfl]
    show zw (if a = b then some (0, m) else some (1, m)) _
    exact zw_ite (fun h => zw_some ⟨rfl, Or.inl rfl, by rw [if_pos h]⟩) (fun h => zw_some ⟨rfl, Or.inr rfl, by rw [if_neg h]⟩)
  · rw [show zvop 9 a b = some (if a < b then 0 else 1) from rfl]
    show zw (if a < b then some (0, m) else some (1, m)) _
    exact zw_ite (fun h => zw_some ⟨rfl, Or.inl rfl, by rw [if_pos h]⟩) (fun h => zw_some ⟨rfl, Or.inr rfl, by rw [if_neg h]⟩)
  · rw [show zvop 10 a b = some (if a ≤ b then 0 else 1) from rfl]
    show zw (if a ≤ b then some (0, m) else some (1, m)) _
    exact zw_ite (fun h => zw_some ⟨rfl, Or.inl rfl, by rw [if_pos h]⟩) (fun h => zw_some ⟨rfl, Or.inr rfl, by rw [if_neg h]⟩)
  · rw [show zvop 4 a b = some (if a ≠ 0 then 1 else if b = 0 then 0 else 1) from rfl]
    show zw (if a ≠ 0 then some (1, m) else if b = 0 then some (0, m) else some (1, m)) _
    exact zw_ite (fun h => zw_some ⟨rfl, Or.inr rfl, by rw [if_pos h]⟩) (fun h => zw_ite (fun g => zw_some ⟨rfl, Or.inl rfl, by rw [if_neg h, if_pos g]⟩) (fun g => zw_some ⟨rfl, Or.inr rfl, by rw [if_neg h, if_neg g]⟩))
  · rw [show zvop 3 a b = some (if a = 0 then 0 else if b = 0 then 0 else 1) from rfl]
    show zw (if a = 0 then some (0, m) else if b = 0 then some (0, m) else some (1, m)) _
    exact zw_ite (fun h => zw_some ⟨rfl, Or.inl rfl, by rw [if_pos h]⟩) (fun h => zw_ite (fun g => zw_some ⟨rfl, Or.inl rfl, by rw [if_neg h, if_pos g]⟩) (fun g => zw_some ⟨rfl, Or.inr rfl, by rw [if_neg h, if_neg g]⟩))

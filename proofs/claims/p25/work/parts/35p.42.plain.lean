/-! what a text begins with: forgetAll, plain -/
theorem zW15 {x : Int} {N : Int} {k : Nat} (h : N - x < ((k + 1 : Nat) : Int)) : N - (x + 1) < (k : Int) := by omega
theorem zW16 {x N : Int} (h : N - x < ((0 : Nat) : Int)) : N ≤ x := by omega
theorem zW17 {x N : Int} (h : ¬ N ≤ x) : x < N ∧ x + 1 ≤ N := by omega
theorem zW18 {x i : Int} (h : x ≤ i) : i = x ∨ x + 1 ≤ i := by omega
theorem zW19 {x : Int} (h0 : 0 ≤ x) (h1 : x < 1000) : zu_w32 (x + 1) = x + 1 := zu_w32_id (by omega) (by omega)
theorem zW20 {x i : Int} (h : i < x) : i < x + 1 ∧ i ≠ x := by omega
/-- Laws.forgetAll -/
theorem zy_14L (n : Nat) : ∀ (k : Nat) (x : Int) (m : zu_m), 0 ≤ x → x ≤ 4 → 4 - x < (k : Int) → zl (zu_ex (zt_T n) 14 12 [(10, 10), (0, x)] [] m) (fun _ m' => (∀ i, i < x → m' 13 i = m 13 i) ∧ ∀ i, x ≤ i → i < 4 → m' 13 i = -1) := by
  intro k
  induction k with
  | zero => intro x m x0 x4 hk; exfalso; omega
  | succ k ih =>
    intro x m x0 x4 hk
    refine zl_eq (zu_rega_at (zt_T n) (zm_14 n) (zdp_14 n) _ _ _ _ _ _ (zr_14_12 n _ _ 10 x m)) ?_
    refine zl_ite (fun h => zl_some ⟨fun _ _ => rfl, fun i i0 i1 => absurd (Int.lt_of_lt_of_le i1 (Int.le_trans h i0)) (Int.lt_irrefl i)⟩) (fun h => ?_)
    obtain ⟨h1, h2⟩ := zW17 h
    refine zl_if (fun _ => zl_if (fun _ => ?_))
    rw [zW19 x0 (Int.lt_trans h1 (by decide))]
    generalize hm1 : zu_up m (10 + 3) x (-1) = m1
    generalize hm2 : zu_up m1 (10 + 4) x (-1) = m2
    have e : ∀ i, m2 13 i = m1 13 i := fun i => zs_ne hm2 (Or.inl (by decide))
    refine zl_mono (ih (x + 1) m2 (Int.le_trans x0 (Int.le_of_lt (Int.lt_succ x))) h2 (zW15 hk)) (fun _ m' hs => ?_)
    refine ⟨fun i hi => ?_, fun i i0 i1 => ?_⟩
    · rw [hs.1 i (zW20 hi).1, e]
      exact zs_ne hm1 (Or.inr (zW20 hi).2)
    · rcases zW18 i0 with q | q
      · rw [q, hs.1 x (Int.lt_succ x), e]
        exact zs_eq hm1
      · exact hs.2 i q i1
theorem zy_14 (n : Nat) (m : zu_m) : zl (zu_call (zt_T n) 14 [(10, 10)] m) (fun _ m' => ∀ i, 0 ≤ i → i < 4 → m' 13 i = -1) := by
  refine zl_eq (zu_call_at (zt_T n) (zm_14 n) (zdp_14 n) _ _ _ _ _ rfl (zr_14_0 n _ _ 10 m)) ?_
  exact zl_mono (zy_14L n 5 0 _ (by decide) (by decide) (by decide)) (fun _ m' hs => hs.2)
/-- Plan.forgetAll -/
def zWPl : List (Nat × Nat) := [(4, 1), (4, 2), (4, 3), (30, 0), (31, 0), (32, 0)]
theorem zy_13L (n : Nat) : ∀ (k : Nat) (x : Int) (m : zu_m), zi_I m → 0 ≤ x → x ≤ 48 → 48 - x < (k : Int) → zw (zu_ex (zt_T n) 13 24 [(8, 6), (0, x)] [] m) (fun _ m' => zi_I m' ∧ zfr zWPl m m' ∧ m' 6 0 = 6 ∧ m' 6 1 = 5 ∧ (∀ i, i < x → m' 9 i = m 9 i) ∧ ∀ i, x ≤ i → i < 48 → m' 9 i = 0) := by
  intro k
  induction k with
  | zero => intro x m hI x0 x4 hk; exfalso; omega
  | succ k ih =>
    intro x m hI x0 x4 hk
    refine zw_eq (zu_rega_at (zt_T n) (zm_13 n) (zdp_13 n) _ _ _ _ _ _ (zr_13_24 n _ _ 6 x m)) ?_
    refine zw_ite (fun h => ?_) (fun h => ?_)
    · refine zw_bd (zw_mono (zk_15_4 n hI zq_6 (by decide) (by decide)) (fun _ m1 hs => ?_))
      obtain ⟨hI1, hf1, -, -, r1, r2, -⟩ := hs
      exact zw_some ⟨hI1, zfr_tr (zfr_rf zWPl m) hf1 rfl, r1, r2, fun i _ => zfr_ap hf1 zq_9 rfl, fun i i0 i1 => absurd (Int.lt_of_lt_of_le i1 (Int.le_trans h i0)) (Int.lt_irrefl i)⟩
    obtain ⟨h1, h2⟩ := zW17 h
    rw [if_pos (show 0 ≤ x ∧ x < 48 from ⟨x0, h1⟩), zW19 x0 (Int.lt_trans h1 (by decide))]
    generalize hm1 : zu_up m (6 + 3) x 0 = m1
    have hI1 := zi_up hm1 hI (show zcls (6 + 3) = 32 from zq_9) (zb_32 _) (by decide) (by decide)
    have hf1 : zfr [(32, 0)] m m1 := zfr_up hm1 (zfr_rf _ _) (show zcls (6 + 3) = 32 from zq_9) rfl
    refine zw_mono (ih (x + 1) m1 hI1 (Int.le_trans x0 (Int.le_of_lt (Int.lt_succ x))) h2 (zW15 hk)) (fun _ m' hs => ?_)
    obtain ⟨g1, g2, g3, g4, g5, g6⟩ := hs
    refine ⟨g1, zfr_tr (zfr_tr (zfr_rf zWPl m) hf1 rfl) g2 rfl, g3, g4, fun i hi => ?_, fun i i0 i1 => ?_⟩
    · rw [g5 i (zW20 hi).1]
      exact zs_ne hm1 (Or.inr (zW20 hi).2)
    · rcases zW18 i0 with q | q
      · rw [q, g5 x (Int.lt_succ x)]
        exact zs_eq hm1
      · exact g6 i q i1
theorem zy_13 (n : Nat) {m : zu_m} (hI : zi_I m) : zw (zu_call (zt_T n) 13 [(8, 6)] m) (fun _ m' => m' 6 0 = 6 ∧ m' 6 1 = 5 ∧ m' 6 3 = 0 ∧ m' 6 4 = 0 ∧ m' 6 5 = 0 ∧ m' 10 5 = 0 ∧ m' 10 6 = 0 ∧ (∀ i, 0 ≤ i → i < 4 → m' 13 i = -1) ∧ ∀ i, 0 ≤ i → i < 48 → m' 9 i = 0) := by
  refine zw_eq (zu_call_at (zt_T n) (zm_13 n) (zdp_13 n) _ _ _ _ _ rfl (zr_13_0 n _ _ 6 m)) ?_
  generalize hm1 : zu_up m 6 3 0 = m1
  have i1 := zi_up hm1 hI zq_6 zb_4_3 (by decide) (by decide)
  generalize hm2 : zu_up m1 6 4 0 = m2
  have i2 := zi_up hm2 i1 zq_6 zb_4_4 (by decide) (by decide)
  generalize hm3 : zu_up m2 6 5 0 = m3
  have i3 := zi_up hm3 i2 zq_6 zb_4_5 (by decide) (by decide)
  refine zw_bd (zw_mono (zw_zl (zk_14 n i3 zq_10) (zy_14 n m3)) (fun _ m4 hs => ?_))
  obtain ⟨⟨i4, f4, -, e5, e6⟩, e13⟩ := hs
  refine zw_mono (zy_13L n 49 0 m4 i4 (by decide) (by decide) (by decide)) (fun _ m' hs => ?_)
  obtain ⟨g1, g2, g3, g4, g5, g6⟩ := hs
  have y : ∀ p, zin zWPl 4 p = false → zin [(5, 6), (5, 7), (35, 0), (36, 0)] 4 p = false → m' 6 p = m3 6 p := fun p hp hq => (zfr_ap g2 zq_6 hp).trans (zfr_ap f4 zq_6 hq)
  refine ⟨g3, g4, ?_, ?_, ?_, ?_, ?_, fun i i0 i1 => (zfr_ap g2 zq_13 rfl).trans (e13 i i0 i1), fun i i0 i1 => g6 i i0 i1⟩
  · rw [y 3 rfl rfl, ← hm3, ← hm2, ← hm1]; simp [zu_up_app]
  · rw [y 4 rfl rfl, ← hm3, ← hm2]; simp [zu_up_app]
  · rw [y 5 rfl rfl, ← hm3]; simp [zu_up_app]
  · rw [zfr_ap (p := 5) g2 zq_10 rfl]; exact Int.le_antisymm e5.2 e5.1
  · rw [zfr_ap (p := 6) g2 zq_10 rfl]; exact Int.le_antisymm e6.2 e6.1
/-- plain -/
theorem zy_30d (n : Nat) : ∀ (k : Nat) (x : Int) (m : zu_m), 0 ≤ x → x ≤ 8 → 8 - x < (k : Int) → zl (zu_ex (zt_T n) 30 126 [(40, 190), (0, x)] [] m) (fun _ m' => zfr [(114, 0)] m m' ∧ (∀ i, i < x → m' 205 i = m 205 i) ∧ ∀ i, x ≤ i → i < 8 → m' 205 i = 0) := by
  intro k
  induction k with
  | zero => intro x m x0 x4 hk; exfalso; omega
  | succ k ih =>
    intro x m x0 x4 hk
    refine zl_eq (zu_rega_at (zt_T n) (zm_30 n) (zdp_30 n) _ _ _ _ _ _ (zr_30_126 n _ _ 190 x m)) ?_
    refine zl_ite (fun h => zl_some ⟨zfr_rf _ _, fun _ _ => rfl, fun i i0 i1 => absurd (Int.lt_of_lt_of_le i1 (Int.le_trans h i0)) (Int.lt_irrefl i)⟩) (fun h => ?_)
    obtain ⟨h1, h2⟩ := zW17 h
    rw [zu_b0, zW19 x0 (Int.lt_trans h1 (by decide))]
    refine zl_if (fun _ => ?_)
    generalize hm1 : zu_up m 205 x 0 = m1
    have hf1 : zfr [(114, 0)] m m1 := zfr_up hm1 (zfr_rf _ _) zq_205 rfl
    refine zl_mono (ih (x + 1) m1 (Int.le_trans x0 (Int.le_of_lt (Int.lt_succ x))) h2 (zW15 hk)) (fun _ m' hs => ?_)
    obtain ⟨g1, g2, g3⟩ := hs
    refine ⟨zfr_tr (zfr_tr (zfr_rf _ m) hf1 rfl) g1 rfl, fun i hi => ?_, fun i i0 i1 => ?_⟩
    · rw [g2 i (zW20 hi).1]
      exact zs_ne hm1 (Or.inr (zW20 hi).2)
    · rcases zW18 i0 with q | q
      · rw [q, g2 x (Int.lt_succ x)]
        exact zs_eq hm1
      · exact g3 i q i1
theorem zy_30c (n : Nat) : ∀ (k : Nat) (x : Int) (m : zu_m), 0 ≤ x → x ≤ 48 → 48 - x < (k : Int) → zl (zu_ex (zt_T n) 30 95 [(40, 190), (0, x)] [] m) (fun _ m' => zfr [(114, 0), (104, 0), (105, 0)] m m' ∧ (∀ i, 4 ≤ i → i < 8 → m' 205 i = 0) ∧ (∀ i, i < x → m' 195 (48 + i) = m 195 (48 + i) ∧ m' 196 i = m 196 i) ∧ ∀ i, x ≤ i → i < 48 → m' 195 (48 + i) = 0 ∧ m' 196 i = 0) := by
  intro k
  induction k with
  | zero => intro x m x0 x4 hk; exfalso; omega
  | succ k ih =>
    intro x m x0 x4 hk
    refine zl_eq (zu_rega_at (zt_T n) (zm_30 n) (zdp_30 n) _ _ _ _ _ _ (zr_30_95 n _ _ 190 x m)) ?_
    refine zl_ite (fun h => ?_) (fun h => ?_)
    · refine zl_mono (zy_30d n 9 4 m (by decide) (by decide) (by decide)) (fun _ m' hs => ?_)
      obtain ⟨g1, g2, g3⟩ := hs
      exact ⟨zfr_tr (zfr_rf _ m) g1 rfl, g3, fun i _ => ⟨zfr_ap g1 zq_195 rfl, zfr_ap g1 zq_196 rfl⟩, fun i i0 i1 => absurd (Int.lt_of_lt_of_le i1 (Int.le_trans h i0)) (Int.lt_irrefl i)⟩
    obtain ⟨h1, h2⟩ := zW17 h
    rw [zu_b0, zW19 x0 (Int.lt_trans h1 (by decide)), zu_w32_id (z := 48 + x) (by omega) (by omega)]
    refine zl_if (fun _ => zl_if (fun _ => ?_))
    generalize hm1 : zu_up m 195 (48 + x) 0 = m1
    generalize hm2 : zu_up m1 196 x 0 = m2
    have hf2 : zfr [(104, 0), (105, 0)] m m2 := zfr_up hm2 (zfr_up hm1 (zfr_rf _ _) zq_195 rfl) zq_196 rfl
    refine zl_mono (ih (x + 1) m2 (Int.le_trans x0 (Int.le_of_lt (Int.lt_succ x))) h2 (zW15 hk)) (fun _ m' hs => ?_)
    obtain ⟨g1, g2, g3, g4⟩ := hs
    refine ⟨zfr_tr (zfr_tr (zfr_rf _ m) hf2 rfl) g1 rfl, g2, fun i hi => ?_, fun i i0 i1 => ?_⟩
    · obtain ⟨p1, p2⟩ := g3 i (zW20 hi).1
      refine ⟨p1.trans ((zs_ne hm2 (Or.inl (by decide))).trans (zs_ne hm1 (Or.inr ?_))), p2.trans ((zs_ne hm2 (Or.inr (zW20 hi).2)).trans (zs_ne hm1 (Or.inl (by decide))))⟩
      intro q
      exact (zW20 hi).2 (Int.add_left_cancel q)
    · rcases zW18 i0 with q | q
      · obtain ⟨p1, p2⟩ := g3 x (Int.lt_succ x)
        rw [q]
        exact ⟨p1.trans ((zs_ne hm2 (Or.inl (by decide))).trans (zs_eq hm1)), p2.trans (zs_eq hm2)⟩
      · exact g4 i q i1
theorem zy_30b (n : Nat) : ∀ (k : Nat) (x : Int) (m : zu_m), 0 ≤ x → x ≤ 10 → 10 - x < (k : Int) → zl (zu_ex (zt_T n) 30 64 [(40, 190), (0, x)] [] m) (fun _ m' => zfr [(114, 0), (104, 0), (105, 0), (103, 0)] m m' ∧ (∀ i, 4 ≤ i → i < 8 → m' 205 i = 0) ∧ (∀ i, 0 ≤ i → i < 48 → m' 195 (48 + i) = 0 ∧ m' 196 i = 0) ∧ (∀ i, i < x → m' 194 i = m 194 i) ∧ ∀ i, x ≤ i → i < 10 → m' 194 i = if i = 8 then -1 else 0) := by
  intro k
  induction k with
  | zero => intro x m x0 x4 hk; exfalso; omega
  | succ k ih =>
    intro x m x0 x4 hk
    refine zl_eq (zu_rega_at (zt_T n) (zm_30 n) (zdp_30 n) _ _ _ _ _ _ (zr_30_64 n _ _ 190 x m)) ?_
    refine zl_ite (fun h => ?_) (fun h => ?_)
    · refine zl_mono (zy_30c n 49 0 m (by decide) (by decide) (by decide)) (fun _ m' hs => ?_)
      obtain ⟨g1, g2, g3, g4⟩ := hs
      exact ⟨zfr_tr (zfr_rf _ m) g1 rfl, g2, g4, fun i _ => zfr_ap g1 zq_194 rfl, fun i i0 i1 => absurd (Int.lt_of_lt_of_le i1 (Int.le_trans h i0)) (Int.lt_irrefl i)⟩
    obtain ⟨h1, h2⟩ := zW17 h
    rw [zW19 x0 (Int.lt_trans h1 (by decide))]
    have go : ∀ v : Int, (if x = 8 then (-1 : Int) else 0) = v → zl (zu_ex (zt_T n) 30 64 [(40, 190), (0, x + 1)] [] (zu_up m 194 x v)) (fun _ m' => zfr [(114, 0), (104, 0), (105, 0), (103, 0)] m m' ∧ (∀ i, 4 ≤ i → i < 8 → m' 205 i = 0) ∧ (∀ i, 0 ≤ i → i < 48 → m' 195 (48 + i) = 0 ∧ m' 196 i = 0) ∧ (∀ i, i < x → m' 194 i = m 194 i) ∧ ∀ i, x ≤ i → i < 10 → m' 194 i = if i = 8 then -1 else 0) := fun v hv => by
      generalize hm1 : zu_up m 194 x v = m1
      have hf1 : zfr [(103, 0)] m m1 := zfr_up hm1 (zfr_rf _ _) zq_194 rfl
      refine zl_mono (ih (x + 1) m1 (Int.le_trans x0 (Int.le_of_lt (Int.lt_succ x))) h2 (zW15 hk)) (fun _ m' hs => ?_)
      obtain ⟨g1, g2, g3, g4, g5⟩ := hs
      refine ⟨zfr_tr (zfr_tr (zfr_rf _ m) hf1 rfl) g1 rfl, g2, g3, fun i hi => ?_, fun i i0 i1 => ?_⟩
      · rw [g4 i (zW20 hi).1]
        exact zs_ne hm1 (Or.inr (zW20 hi).2)
      · rcases zW18 i0 with q | q
        · rw [q, g4 x (Int.lt_succ x), hv]
          exact zs_eq hm1
        · exact g5 i q i1
    refine zl_ite (fun h8 => zl_if (fun _ => go 0 (if_neg h8))) (fun h8 => zl_if (fun _ => go (-1) (if_pos (Decidable.not_not.mp h8))))
theorem zy_30a (n : Nat) : ∀ (k : Nat) (x : Int) (m : zu_m), 0 ≤ x → x ≤ 6 → 6 - x < (k : Int) → zl (zu_ex (zt_T n) 30 43 [(40, 190), (0, x)] [] m) (fun _ m' => zfr [(114, 0), (104, 0), (105, 0), (103, 0), (102, 0)] m m' ∧ (∀ i, 4 ≤ i → i < 8 → m' 205 i = 0) ∧ (∀ i, 0 ≤ i → i < 48 → m' 195 (48 + i) = 0 ∧ m' 196 i = 0) ∧ (∀ i, 5 ≤ i → i < 10 → m' 194 i = if i = 8 then -1 else 0) ∧ (∀ i, i < x → m' 193 i = m 193 i) ∧ ∀ i, x ≤ i → i < 6 → m' 193 i = 0) := by
  intro k
  induction k with
  | zero => intro x m x0 x4 hk; exfalso; omega
  | succ k ih =>
    intro x m x0 x4 hk
    refine zl_eq (zu_rega_at (zt_T n) (zm_30 n) (zdp_30 n) _ _ _ _ _ _ (zr_30_43 n _ _ 190 x m)) ?_
    refine zl_ite (fun h => ?_) (fun h => ?_)
    · refine zl_mono (zy_30b n 6 5 m (by decide) (by decide) (by decide)) (fun _ m' hs => ?_)
      obtain ⟨g1, g2, g3, g4, g5⟩ := hs
      exact ⟨zfr_tr (zfr_rf _ m) g1 rfl, g2, g3, g5, fun i _ => zfr_ap g1 zq_193 rfl, fun i i0 i1 => absurd (Int.lt_of_lt_of_le i1 (Int.le_trans h i0)) (Int.lt_irrefl i)⟩
    obtain ⟨h1, h2⟩ := zW17 h
    rw [zu_b0, zW19 x0 (Int.lt_trans h1 (by decide))]
    refine zl_if (fun _ => ?_)
    generalize hm1 : zu_up m 193 x 0 = m1
    have hf1 : zfr [(102, 0)] m m1 := zfr_up hm1 (zfr_rf _ _) zq_193 rfl
    refine zl_mono (ih (x + 1) m1 (Int.le_trans x0 (Int.le_of_lt (Int.lt_succ x))) h2 (zW15 hk)) (fun _ m' hs => ?_)
    obtain ⟨g1, g2, g3, g4, g5, g6⟩ := hs
    refine ⟨zfr_tr (zfr_tr (zfr_rf _ m) hf1 rfl) g1 rfl, g2, g3, g4, fun i hi => ?_, fun i i0 i1 => ?_⟩
    · rw [g5 i (zW20 hi).1]
      exact zs_ne hm1 (Or.inr (zW20 hi).2)
    · rcases zW18 i0 with q | q
      · rw [q, g5 x (Int.lt_succ x)]
        exact zs_eq hm1
      · exact g6 i q i1
theorem zy_30 (n : Nat) (t : zu_m) : zl (zu_call (zt_T n) 30 [(40, 190)] t) (fun _ t' => (∀ i, 4 ≤ i → i < 8 → t' 205 i = 0) ∧ (∀ i, 0 ≤ i → i < 48 → t' 195 (48 + i) = 0 ∧ t' 196 i = 0) ∧ (∀ i, 5 ≤ i → i < 10 → t' 194 i = if i = 8 then -1 else 0) ∧ ∀ i, 0 ≤ i → i < 6 → t' 193 i = 0) := by
  refine zl_eq (zu_call_at (zt_T n) (zm_30 n) (zdp_30 n) _ _ _ _ _ rfl (zr_30_0 n _ _ 190 t)) ?_
  rw [zu_b0]
  refine zl_mono (zy_30a n 7 0 _ (by decide) (by decide) (by decide)) (fun _ m' hs => ?_)
  obtain ⟨g1, g2, g3, g4, g5, g6⟩ := hs
  exact ⟨g2, g3, g4, g6⟩

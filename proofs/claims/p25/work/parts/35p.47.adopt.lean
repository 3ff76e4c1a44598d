/-! adoptText: children's number and letters, nothing seen, no image -/
theorem zy_196 (n : Nat) {x y : Int} (m : zu_m) : zl (zu_call (zt_T n) 196 [(21, x), (21, y)] m) (fun _ m' => m' x 0 = m y 0 ∧ ∀ d, d ≠ x → ∀ p, m' d p = m d p) := by
  refine zl_eq (zu_call_at (zt_T n) (zm_196 n) (zdp_196 n) _ _ _ _ _ rfl (zr_196_0 n _ _ x y m)) (zl_some ⟨?_, fun d hd p => ?_⟩)
  · rw [zu_up_ne (Or.inr (by decide)), zu_up_ne (Or.inr (by decide)), zu_up_ne (Or.inr (by decide)), zu_up_ne (Or.inr (by decide)), zu_up_ne (Or.inr (by decide)), zu_up_ne (Or.inr (by decide)), zu_up_ne (Or.inr (by decide)), zu_up_eq]
  · rw [zu_up_ne (Or.inl hd), zu_up_ne (Or.inl hd), zu_up_ne (Or.inl hd), zu_up_ne (Or.inl hd), zu_up_ne (Or.inl hd), zu_up_ne (Or.inl hd), zu_up_ne (Or.inl hd), zu_up_ne (Or.inl hd)]
theorem zy_197 (n : Nat) {x y : Int} (m : zu_m) : zl (zu_call (zt_T n) 197 [(20, x), (20, y)] m) (fun _ m' => ∀ d, d ≠ x → ∀ p, m' d p = m d p) := by
  refine zl_eq (zu_call_at (zt_T n) (zm_197 n) (zdp_197 n) _ _ _ _ _ rfl (zr_197_0 n _ _ x y m)) (zl_some (fun d hd p => ?_))
  rw [zu_up_ne (Or.inl hd), zu_up_ne (Or.inl hd), zu_up_ne (Or.inl hd), zu_up_ne (Or.inl hd)]
theorem zy_22a80 (n : Nat) {a0 : Int} : ∀ (k : Nat) (x : Int) (m : zu_m), 0 ≤ x → x ≤ 48 → 48 - x < (k : Int) → zl (zu_ex (zt_T n) 22 80 [(27, a0), (16, 19), (0, x)] [] m) (fun _ m' => m' a0 4 = m a0 4 ∧ ∀ d, a0 + 5 ≤ d → ∀ p, m' d p = m d p) := by
  intro k
  induction k with
  | zero => intro x m x0 x4 hk; exfalso; omega
  | succ k ih =>
    intro x m x0 x4 hk
    refine zl_eq (zu_rega_at (zt_T n) (zm_22 n) (zdp_22 n) _ _ _ _ _ _ (zr_22_80 n _ _ a0 19 x m)) ?_
    refine zl_ite (fun h => zl_some ⟨?_, fun d hd p => ?_⟩) (fun h => ?_)
    · rw [zu_up_ne (Or.inr (by decide)), zu_up_ne (Or.inr (by decide)), zu_up_ne (Or.inr (by decide)), zu_up_ne (Or.inr (by decide))]
    · rw [zu_up_ne (Or.inl (by omega)), zu_up_ne (Or.inl (by omega)), zu_up_ne (Or.inl (by omega)), zu_up_ne (Or.inl (by omega))]
    obtain ⟨h1, h2⟩ := zW17 h
    rw [zW19 x0 (Int.lt_trans h1 (by decide))]
    refine zl_if (fun _ => zl_b (zl_if (fun _ => zl_if (fun _ => zl_if (fun _ => ?_)))))
    refine zl_mono (ih (x + 1) _ (by omega) h2 (zW15 hk)) (fun _ m' hs => ⟨?_, fun d hd p => ?_⟩)
    · rw [hs.1, zu_up_ne (Or.inl (by omega)), zu_up_ne (Or.inl (by omega))]
    · rw [hs.2 d hd p, zu_up_ne (Or.inl (by omega)), zu_up_ne (Or.inl (by omega))]
theorem zy_22a49 (n : Nat) {a0 : Int} (hd : a0 + 26 ≤ 19 ∨ 19 + 26 ≤ a0) : ∀ (k : Nat) (x : Int) (m : zu_m), 0 ≤ x → x ≤ 4 → 4 - x < (k : Int) → zl (zu_ex (zt_T n) 22 49 [(27, a0), (16, 19), (0, x)] [] m) (fun _ m' => m' a0 4 = m a0 4 ∧ (∀ i, 0 ≤ i → i < x → m' (a0 + 2 + 20 + i) 0 = m (a0 + 2 + 20 + i) 0) ∧ ∀ i, x ≤ i → i < 4 → i < m a0 4 → m' (a0 + 2 + 20 + i) 0 = m (19 + 2 + 20 + i) 0) := by
  intro k
  induction k with
  | zero => intro x m x0 x4 hk; exfalso; omega
  | succ k ih =>
    intro x m x0 x4 hk
    refine zl_eq (zu_rega_at (zt_T n) (zm_22 n) (zdp_22 n) _ _ _ _ _ _ (zr_22_49 n _ _ a0 19 x m)) ?_
    refine zl_ite (fun h => ?_) (fun h => ?_)
    · refine zl_mono (zy_22a80 n 49 0 m (by decide) (by decide) (by decide)) (fun _ m' hs => ⟨hs.1, fun i i0 i1 => hs.2 _ (by omega) _, fun i i0 i1 i2 => ?_⟩)
      exfalso; omega
    refine zl_if (fun hx => zl_if (fun _ => ?_))
    rw [zW19 x0 (Int.lt_trans hx.2 (by decide))]
    refine zl_bd (zl_mono (zy_196 n m) (fun _ m1 hs1 => ?_))
    obtain ⟨q1, q2⟩ := hs1
    have q4 : m1 a0 4 = m a0 4 := q2 _ (by omega) _
    refine zl_mono (ih (x + 1) m1 (by omega) (by omega) (zW15 hk)) (fun _ m' hs => ?_)
    obtain ⟨g1, g2, g3⟩ := hs
    refine ⟨g1.trans q4, fun i i0 i1 => ?_, fun i i0 i1 i2 => ?_⟩
    · rw [g2 i i0 (by omega)]
      exact q2 _ (by omega) _
    · by_cases e : i = x
      · rw [e, g2 x x0 (by omega)]
        exact q1
      · rw [g3 i (by omega) i1 (by rw [q4]; exact i2)]
        exact q2 _ (by omega) _
theorem zy_22a10 (n : Nat) {a0 : Int} (hd : a0 + 26 ≤ 19 ∨ 19 + 26 ≤ a0) : ∀ (k : Nat) (x : Int) (m : zu_m), 0 ≤ x → x ≤ 16 → 16 - x < (k : Int) → zl (zu_ex (zt_T n) 22 10 [(27, a0), (16, 19), (0, x)] [] m) (fun _ m' => m' a0 4 = m 19 4 ∧ ∀ i, 0 ≤ i → i < 4 → i < m 19 4 → m' (a0 + 2 + 20 + i) 0 = m (19 + 2 + 20 + i) 0) := by
  intro k
  induction k with
  | zero => intro x m x0 x4 hk; exfalso; omega
  | succ k ih =>
    intro x m x0 x4 hk
    refine zl_eq (zu_rega_at (zt_T n) (zm_22 n) (zdp_22 n) _ _ _ _ _ _ (zr_22_10 n _ _ a0 19 x m)) ?_
    refine zl_ite (fun h => ?_) (fun h => ?_)
    · generalize hm1 : zu_up m a0 4 (m 19 4) = m1
      have q4 : m1 a0 4 = m 19 4 := zs_eq hm1
      refine zl_mono (zy_22a49 n hd 5 0 m1 (by decide) (by decide) (by decide)) (fun _ m' hs => ?_)
      obtain ⟨g1, g2, g3⟩ := hs
      refine ⟨g1.trans q4, fun i i0 i1 i2 => ?_⟩
      rw [g3 i i0 i1 (by rw [q4]; exact i2)]
      exact zs_ne hm1 (Or.inl (by omega))
    refine zl_if (fun hx => zl_if (fun _ => ?_))
    rw [zW19 x0 (Int.lt_trans hx.2 (by decide))]
    refine zl_bd (zl_mono (zy_197 n m) (fun _ m1 hs1 => ?_))
    have q4 : m1 19 4 = m 19 4 := hs1 _ (by omega) _
    refine zl_mono (ih (x + 1) m1 (by omega) (by omega) (zW15 hk)) (fun _ m' hs => ?_)
    obtain ⟨g1, g2⟩ := hs
    refine ⟨g1.trans q4, fun i i0 i1 i2 => ?_⟩
    rw [g2 i i0 i1 (by rw [q4]; exact i2)]
    exact hs1 _ (by omega) _
theorem zy_22a (n : Nat) {a0 : Int} (hd : a0 + 26 ≤ 19 ∨ 19 + 26 ≤ a0) (m : zu_m) : zl (zu_call (zt_T n) 22 [(27, a0), (16, 19)] m) (fun _ m' => m' a0 4 = m 19 4 ∧ ∀ i, 0 ≤ i → i < 4 → i < m 19 4 → m' (a0 + 2 + 20 + i) 0 = m (19 + 2 + 20 + i) 0) := by
  refine zl_eq (zu_call_at (zt_T n) (zm_22 n) (zdp_22 n) _ _ _ _ _ rfl (zr_22_0 n _ _ a0 19 m)) ?_
  generalize hm1 : zu_up m a0 2 (m 19 2) = m1
  have q4 : m1 19 4 = m 19 4 := zs_ne hm1 (Or.inl (by omega))
  refine zl_mono (zy_22a10 n hd 17 0 m1 (by decide) (by decide) (by decide)) (fun _ m' hs => ?_)
  obtain ⟨g1, g2⟩ := hs
  refine ⟨g1.trans q4, fun i i0 i1 i2 => ?_⟩
  rw [g2 i i0 i1 (by rw [q4]; exact i2)]
  exact zs_ne hm1 (Or.inl (by omega))
theorem zy_22b80 (n : Nat) {a0 a1 : Int} : ∀ (k : Nat) (x : Int) (m : zu_m), 0 ≤ x → x ≤ 48 → 48 - x < (k : Int) → zl (zu_ex (zt_T n) 22 80 [(27, a0), (27, a1), (0, x)] [] m) (fun _ m' => m' a0 4 = m a0 4 ∧ ∀ d, a0 + 5 ≤ d → ∀ p, m' d p = m d p) := by
  intro k
  induction k with
  | zero => intro x m x0 x4 hk; exfalso; omega
  | succ k ih =>
    intro x m x0 x4 hk
    refine zl_eq (zu_rega_at (zt_T n) (zm_22 n) (zdp_22 n) _ _ _ _ _ _ (zr_22b_80 n _ _ a0 a1 x m)) ?_
    refine zl_ite (fun h => zl_some ⟨?_, fun d hd p => ?_⟩) (fun h => ?_)
    · rw [zu_up_ne (Or.inr (by decide)), zu_up_ne (Or.inr (by decide)), zu_up_ne (Or.inr (by decide)), zu_up_ne (Or.inr (by decide))]
    · rw [zu_up_ne (Or.inl (by omega)), zu_up_ne (Or.inl (by omega)), zu_up_ne (Or.inl (by omega)), zu_up_ne (Or.inl (by omega))]
    obtain ⟨h1, h2⟩ := zW17 h
    rw [zW19 x0 (Int.lt_trans h1 (by decide))]
    refine zl_if (fun _ => zl_b (zl_if (fun _ => zl_if (fun _ => zl_if (fun _ => ?_)))))
    refine zl_mono (ih (x + 1) _ (by omega) h2 (zW15 hk)) (fun _ m' hs => ⟨?_, fun d hd p => ?_⟩)
    · rw [hs.1, zu_up_ne (Or.inl (by omega)), zu_up_ne (Or.inl (by omega))]
    · rw [hs.2 d hd p, zu_up_ne (Or.inl (by omega)), zu_up_ne (Or.inl (by omega))]
theorem zy_22b49 (n : Nat) {a0 a1 : Int} (hd : a0 + 26 ≤ a1 ∨ a1 + 26 ≤ a0) : ∀ (k : Nat) (x : Int) (m : zu_m), 0 ≤ x → x ≤ 4 → 4 - x < (k : Int) → zl (zu_ex (zt_T n) 22 49 [(27, a0), (27, a1), (0, x)] [] m) (fun _ m' => m' a0 4 = m a0 4 ∧ (∀ i, 0 ≤ i → i < x → m' (a0 + 2 + 20 + i) 0 = m (a0 + 2 + 20 + i) 0) ∧ ∀ i, x ≤ i → i < 4 → i < m a0 4 → m' (a0 + 2 + 20 + i) 0 = m (a1 + 2 + 20 + i) 0) := by
  intro k
  induction k with
  | zero => intro x m x0 x4 hk; exfalso; omega
  | succ k ih =>
    intro x m x0 x4 hk
    refine zl_eq (zu_rega_at (zt_T n) (zm_22 n) (zdp_22 n) _ _ _ _ _ _ (zr_22b_49 n _ _ a0 a1 x m)) ?_
    refine zl_ite (fun h => ?_) (fun h => ?_)
    · refine zl_mono (zy_22b80 n 49 0 m (by decide) (by decide) (by decide)) (fun _ m' hs => ⟨hs.1, fun i i0 i1 => hs.2 _ (by omega) _, fun i i0 i1 i2 => ?_⟩)
      exfalso; omega
    refine zl_if (fun hx => zl_if (fun _ => ?_))
    rw [zW19 x0 (Int.lt_trans hx.2 (by decide))]
    refine zl_bd (zl_mono (zy_196 n m) (fun _ m1 hs1 => ?_))
    obtain ⟨q1, q2⟩ := hs1
    have q4 : m1 a0 4 = m a0 4 := q2 _ (by omega) _
    refine zl_mono (ih (x + 1) m1 (by omega) (by omega) (zW15 hk)) (fun _ m' hs => ?_)
    obtain ⟨g1, g2, g3⟩ := hs
    refine ⟨g1.trans q4, fun i i0 i1 => ?_, fun i i0 i1 i2 => ?_⟩
    · rw [g2 i i0 (by omega)]
      exact q2 _ (by omega) _
    · by_cases e : i = x
      · rw [e, g2 x x0 (by omega)]
        exact q1
      · rw [g3 i (by omega) i1 (by rw [q4]; exact i2)]
        exact q2 _ (by omega) _
theorem zy_22b10 (n : Nat) {a0 a1 : Int} (hd : a0 + 26 ≤ a1 ∨ a1 + 26 ≤ a0) : ∀ (k : Nat) (x : Int) (m : zu_m), 0 ≤ x → x ≤ 16 → 16 - x < (k : Int) → zl (zu_ex (zt_T n) 22 10 [(27, a0), (27, a1), (0, x)] [] m) (fun _ m' => m' a0 4 = m a1 4 ∧ ∀ i, 0 ≤ i → i < 4 → i < m a1 4 → m' (a0 + 2 + 20 + i) 0 = m (a1 + 2 + 20 + i) 0) := by
  intro k
  induction k with
  | zero => intro x m x0 x4 hk; exfalso; omega
  | succ k ih =>
    intro x m x0 x4 hk
    refine zl_eq (zu_rega_at (zt_T n) (zm_22 n) (zdp_22 n) _ _ _ _ _ _ (zr_22b_10 n _ _ a0 a1 x m)) ?_
    refine zl_ite (fun h => ?_) (fun h => ?_)
    · generalize hm1 : zu_up m a0 4 (m a1 4) = m1
      have q4 : m1 a0 4 = m a1 4 := zs_eq hm1
      refine zl_mono (zy_22b49 n hd 5 0 m1 (by decide) (by decide) (by decide)) (fun _ m' hs => ?_)
      obtain ⟨g1, g2, g3⟩ := hs
      refine ⟨g1.trans q4, fun i i0 i1 i2 => ?_⟩
      rw [g3 i i0 i1 (by rw [q4]; exact i2)]
      exact zs_ne hm1 (Or.inl (by omega))
    refine zl_if (fun hx => zl_if (fun _ => ?_))
    rw [zW19 x0 (Int.lt_trans hx.2 (by decide))]
    refine zl_bd (zl_mono (zy_197 n m) (fun _ m1 hs1 => ?_))
    have q4 : m1 a1 4 = m a1 4 := hs1 _ (by omega) _
    refine zl_mono (ih (x + 1) m1 (by omega) (by omega) (zW15 hk)) (fun _ m' hs => ?_)
    obtain ⟨g1, g2⟩ := hs
    refine ⟨g1.trans q4, fun i i0 i1 i2 => ?_⟩
    rw [g2 i i0 i1 (by rw [q4]; exact i2)]
    exact hs1 _ (by omega) _
theorem zy_22b (n : Nat) {a0 a1 : Int} (hd : a0 + 26 ≤ a1 ∨ a1 + 26 ≤ a0) (m : zu_m) : zl (zu_call (zt_T n) 22 [(27, a0), (27, a1)] m) (fun _ m' => m' a0 4 = m a1 4 ∧ ∀ i, 0 ≤ i → i < 4 → i < m a1 4 → m' (a0 + 2 + 20 + i) 0 = m (a1 + 2 + 20 + i) 0) := by
  refine zl_eq (zu_call_at (zt_T n) (zm_22 n) (zdp_22 n) _ _ _ _ _ rfl (zr_22b_0 n _ _ a0 a1 m)) ?_
  generalize hm1 : zu_up m a0 2 (m a1 2) = m1
  have q4 : m1 a1 4 = m a1 4 := zs_ne hm1 (Or.inl (by omega))
  refine zl_mono (zy_22b10 n hd 17 0 m1 (by decide) (by decide) (by decide)) (fun _ m' hs => ?_)
  obtain ⟨g1, g2⟩ := hs
  refine ⟨g1.trans q4, fun i i0 i1 i2 => ?_⟩
  rw [g2 i i0 i1 (by rw [q4]; exact i2)]
  exact zs_ne hm1 (Or.inl (by omega))
theorem zc_27 (n : Nat) (m : zu_m) : zl (zu_call (zt_T n) 27 [(28, 141)] m) (fun _ m' => m' 141 6 = 0 ∧ ∀ d, d ≠ 141 → ∀ p, m' d p = m d p) := by
  refine zl_eq (zu_call_at (zt_T n) (zm_27 n) (zdp_27 n) _ _ _ _ _ rfl (zr_27_0 n _ _ 141 m)) (zl_some ⟨?_, fun d hd p => ?_⟩)
  · rw [zu_up_ne (Or.inr (by decide)), zu_up_eq]
  · rw [zu_up_ne (Or.inl hd), zu_up_ne (Or.inl hd)]
theorem zc_28 (n : Nat) (m : zu_m) : zl (zu_call (zt_T n) 28 [(31, 148)] m) (fun _ m' => ∀ d, d ≠ 148 → ∀ p, m' d p = m d p) := by
  refine zl_eq (zu_call_at (zt_T n) (zm_28 n) (zdp_28 n) _ _ _ _ _ rfl (zr_28_0 n _ _ 148 m)) (zl_some (fun d hd p => ?_))
  exact zu_up_ne (Or.inl hd)
theorem zchi63 {k : Int} (h0 : 0 ≤ k) (h1 : k < 4) : zcls (63 + 2 + 20 + k) = 15 := show zcls (65 + 20 + k) = 15 from zcls_el (k := 20) (l := 4) (a := 65) (by decide +kernel) (by decide) (c := 61) zq_65 ⟨h0, h1⟩
/-- adoptText -/
theorem zz_adopt (n : Nat) {m : zu_m} (hI : zi_I m) (hE : zE m 19 6) (hG : m 6 2 = m 6 0 * m 6 1) (hK : zR_K10 m) : zl (zu_call (zt_T n) 19 [(5, 3)] m) (fun _ m' => m' 89 4 = m 19 4 ∧ (∀ i, 0 ≤ i → i < 4 → i < m 19 4 → m' (89 + 2 + 20 + i) 0 = m (19 + 2 + 20 + i) 0) ∧ m' 3 9 = 0 ∧ m' 141 6 = 0) := by
  refine zl_eq (zu_call_at (zt_T n) (zm_19 n) (zdp_19 n) _ _ _ _ _ rfl (zr_19_0 n _ _ 3 m)) ?_
  refine zl_bd (zl_mono (zl_of (zk_20 n hI zq_50 zq_6 hG hK)) (fun _ m1 hs => ?_))
  obtain ⟨I1, f1, -, -, -, k54, -⟩ := hs
  refine zl_bd (zl_mono (zl_of (zw_zl (zk_22_13_6 n I1 zq_63 zq_19) (zy_22a n (a0 := 63) (by decide) m1))) (fun _ m2 hs => ?_))
  obtain ⟨⟨I2, f2, -⟩, a1, a2⟩ := hs
  refine zl_bd (zl_mono (zl_of (zk_23 n I2 zq_50 zq_63 (zR_K54_fr (zdis_fr f2 rfl) k54))) (fun _ m3 hs => ?_))
  obtain ⟨I3, f3, -⟩ := hs
  refine zl_bd (zl_mono (zl_of (zw_zl (zk_22_16_13 n I3 zq_89 zq_63) (zy_22b n (a0 := 89) (a1 := 63) (by decide) m3))) (fun _ m4 hs => ?_))
  obtain ⟨⟨I4, f4, -⟩, b1, b2⟩ := hs
  rw [zu_b0]
  generalize hm5 : zu_up m4 3 9 0 = m5
  refine zl_bd (zl_mono (zc_27 n m5) (fun _ m6 hs => ?_))
  obtain ⟨c1, c2⟩ := hs
  refine zl_bd (zl_mono (zc_28 n m6) (fun _ m7 d1 => zl_some ?_))
  have e89 : ∀ d, 89 ≤ d → d < 141 → ∀ p, m7 d p = m4 d p := fun d h0 h1 p => (d1 d (by omega) p).trans ((c2 d (by omega) p).trans (zs_ne hm5 (Or.inl (by omega))))
  have c19 : m1 19 4 = m 19 4 := zfr_ap f1 zq_19 rfl
  have e63 : m3 63 4 = m 19 4 := ((zfr_ap f3 zq_63 rfl).trans a1).trans c19
  refine ⟨(e89 89 (by decide) (by decide) 4).trans (b1.trans e63), fun i i0 i1 i2 => ?_, ?_, ?_⟩
  · have hc3 : zcls (63 + 2 + 20 + i) = 15 := zchi63 i0 i1
    rw [e89 (89 + 2 + 20 + i) (by omega) (by omega) 0, b2 i i0 i1 (by rw [e63]; exact i2), zfr_ap (p := 0) f3 hc3 rfl, a2 i i0 i1 (by rw [c19]; exact i2)]
    exact zfr_ap f1 (zchi i0 i1) rfl
  · exact (d1 3 (by decide) 9).trans ((c2 3 (by decide) 9).trans (zs_eq hm5))
  · exact (d1 141 (by decide) 6).trans c1

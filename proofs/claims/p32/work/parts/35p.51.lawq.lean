/-! what the law keeps further: children's number and letters, how many were seen; compared calls over it -/
theorem zchi89 {k : Int} (h0 : 0 ≤ k) (h1 : k < 4) : zcls (89 + 2 + 20 + k) = 18 := show zcls (91 + 20 + k) = 18 from zcls_el (k := 20) (l := 4) (a := 91) (by decide +kernel) (by decide) (c := zcls 91) rfl ⟨h0, h1⟩
theorem zchi115 {k : Int} (h0 : 0 ≤ k) (h1 : k < 4) : zcls (115 + 2 + 20 + k) = 21 := show zcls (117 + 20 + k) = 21 from zcls_el (k := 20) (l := 4) (a := 117) (by decide +kernel) (by decide) (c := zcls 117) rfl ⟨h0, h1⟩
def zNA (a : Int) (m : zu_m) : Prop := m a 4 = m 190 15 ∧ ∀ i, 0 ≤ i → i < 4 → i < m 190 15 → m (a + 2 + 20 + i) 0 = m 200 i
def zR_NA (m : zu_m) : Prop := zNA 89 m ∧ (m 3 9 = 1 → zNA 115 m)
def zR_SF (m : zu_m) : Prop := m 141 6 = m 190 77
theorem zNA_mv {a : Int} {m m' : zu_m} (h : zNA a m) (h4 : m' a 4 = m a 4) (hc : ∀ i, 0 ≤ i → i < 4 → m' (a + 2 + 20 + i) 0 = m (a + 2 + 20 + i) 0) (h15 : m' 190 15 = m 190 15) (h2 : ∀ i, 0 ≤ i → i < 4 → m' 200 i = m 200 i) : zNA a m' := by
  refine ⟨by rw [h4, h15]; exact h.1, fun i i0 i1 i2 => ?_⟩
  rw [hc i i0 i1, h2 i i0 i1]
  rw [h15] at i2
  exact h.2 i i0 i1 i2
theorem zR_NA_fr {m m' : zu_m} (h : ∀ (a p : Int), zin [(2, 10), (16, 5), (18, 1), (19, 5), (21, 1), (28, 16), (109, 0)] (zcls a) p = true → m' a p = m a p) (hr : zR_NA m) : zR_NA m' := by
  have h15 := h 190 15 (by rw [zq_190]; rfl)
  have h2 : ∀ i, 0 ≤ i → i < 4 → m' 200 i = m 200 i := fun i _ _ => h 200 i (by rw [zq_200]; rfl)
  refine ⟨zNA_mv hr.1 (h 89 4 (by rw [zq_89]; rfl)) (fun i i0 i1 => h _ 0 (by rw [zchi89 i0 i1]; rfl)) h15 h2, fun q => zNA_mv (hr.2 ?_) (h 115 4 (by rw [zq_115]; rfl)) (fun i i0 i1 => h _ 0 (by rw [zchi115 i0 i1]; rfl)) h15 h2⟩
  rw [← h 3 9 (by rw [zq_3]; rfl)]
  exact q
theorem zR_SF_fr {m m' : zu_m} (h : ∀ (a p : Int), zin [(22, 7), (28, 78)] (zcls a) p = true → m' a p = m a p) (hr : zR_SF m) : zR_SF m' := by
  unfold zR_SF at hr ⊢
  rw [h 141 6 (by rw [zq_141]; rfl), h 190 77 (by rw [zq_190]; rfl)]
  exact hr
/-- text -/
theorem zz_textQ (n : Nat) {a b : Int} (hab : b = a) (ha : -2147483648 ≤ a ∧ a ≤ 2147483647) {m m1 m2 : zu_m} {v w : Int} {W V : List (Nat × Nat)} (hI : zi_I m) (hBN : zR_BN m) (hK10 : zR_K10 m) (hW1 : zR_W1 m) (hX : zR_BX m) (hI1 : zi_I m1) (hC0 : zR_C0 m1) (hKN : zR_KN m1) (hLT : zR_LT m1) (hWD : zR_WD m1) (hW2 : zR_W2 m1) (hTA : zR_TA m) (hT : m 3 1 = m 190 1) (hNA : zR_NA m) (hSF : zR_SF m) (f1 : zfr W m m1) (d1 : zdis W [(100, 0), (28, 2), (28, 5), (28, 6), (28, 16), (28, 78), (109, 0)] = true) (f2 : zfr V m1 m2) (d2 : zdis V [(2, 3), (2, 4), (2, 10), (16, 5), (18, 1), (19, 5), (21, 1), (22, 7)] = true) (e1 : zu_call (zt_T n) 42 [(5, 3), (0, a)] m = some (v, m1)) (e2 : zu_call (zt_T n) 106 [(40, 190), (0, b)] m1 = some (w, m2)) : v = w ∧ (zR_TP m → zR_TP m2) ∧ zR_NA m2 ∧ zR_SF m2 := by
  subst hab
  have q := zdis_fr f1 d1
  have q2 := zdis_fr f2 d2
  have hTm : m 4 = m1 191 := hTA.trans (funext (fun p => (q 191 p (by rw [zq_191]; rfl)).symm))
  obtain ⟨h1, h2, h3⟩ := zz_textD n ha hI hBN hK10 hW1 hX hI1 hC0 hKN hLT hWD hW2 hTm (hT.trans (q 190 1 (by rw [zq_190]; rfl)).symm) v m1 e1 w m2 e2
  have q15 : m1 190 15 = m 190 15 := q 190 15 (by rw [zq_190]; rfl)
  have q77 : m1 190 77 = m 190 77 := q 190 77 (by rw [zq_190]; rfl)
  have q200 : ∀ i, m1 200 i = m 200 i := fun i => q 200 i (by rw [zq_200]; rfl)
  have c89 : m2 89 4 = m1 89 4 := q2 89 4 (by rw [zq_89]; rfl)
  have c115 : m2 115 4 = m1 115 4 := q2 115 4 (by rw [zq_115]; rfl)
  have c39 : m2 3 9 = m1 3 9 := q2 3 9 (by rw [zq_3]; rfl)
  have c141 : m2 141 6 = m1 141 6 := q2 141 6 (by rw [zq_141]; rfl)
  have cc89 : ∀ i, 0 ≤ i → i < 4 → m2 (89 + 2 + 20 + i) 0 = m1 (89 + 2 + 20 + i) 0 := fun i i0 i1 => q2 _ 0 (by rw [zchi89 i0 i1]; rfl)
  have cc115 : ∀ i, 0 ≤ i → i < 4 → m2 (115 + 2 + 20 + i) 0 = m1 (115 + 2 + 20 + i) 0 := fun i i0 i1 => q2 _ 0 (by rw [zchi115 i0 i1]; rfl)
  refine ⟨h1, fun hp => ?_, ?_⟩
  · obtain ⟨p1, p2⟩ := h2 ⟨hp.1.trans (q 190 4 (by rw [zq_190]; rfl)).symm, hp.2.trans (q 190 5 (by rw [zq_190]; rfl)).symm⟩
    exact ⟨(q2 3 2 (by rw [zq_3]; rfl)).trans p1, (q2 3 3 (by rw [zq_3]; rfl)).trans p2⟩
  rcases h3 with ⟨-, e3, e4⟩ | ⟨-, g1, g2, g3, g4⟩ | ⟨-, -, ma, ta, p, r, s1, s2, s3, s4, s5, s6⟩
  · have x : ∀ d p, (d ≠ 190 ∨ p ≠ 2) → m2 d p = m d p := fun d p h => by rw [e4, zu_up_ne h, e3]
    refine ⟨⟨zNA_mv hNA.1 (x _ _ (Or.inl (by decide))) (fun i i0 i1 => x _ _ (Or.inl (by omega))) (x _ _ (Or.inr (by decide))) (fun i _ _ => x _ _ (Or.inl (by decide))), fun h9 => zNA_mv (hNA.2 ?_) (x _ _ (Or.inl (by decide))) (fun i i0 i1 => x _ _ (Or.inl (by omega))) (x _ _ (Or.inr (by decide))) (fun i _ _ => x _ _ (Or.inl (by decide)))⟩, ?_⟩
    · rw [← x 3 9 (Or.inl (by decide))]; exact h9
    · unfold zR_SF
      rw [x 141 6 (Or.inl (by decide)), x 190 77 (Or.inr (by decide))]
      exact hSF
  · have y15 : m2 190 15 = m 190 15 := g2.trans q15
    have y200 : ∀ i, 0 ≤ i → i < 4 → m2 200 i = m 200 i := fun i i0 i1 => (g4 i i0 i1).trans (q200 i)
    refine ⟨⟨zNA_mv hNA.1 (c89.trans (zfr_ap g1 zq_89 rfl)) (fun i i0 i1 => (cc89 i i0 i1).trans (zfr_ap g1 (zchi89 i0 i1) rfl)) y15 y200, fun h9 => zNA_mv (hNA.2 ?_) (c115.trans (zfr_ap g1 zq_115 rfl)) (fun i i0 i1 => (cc115 i i0 i1).trans (zfr_ap g1 (zchi115 i0 i1) rfl)) y15 y200⟩, ?_⟩
    · rw [← h9, c39]; exact (zfr_ap g1 zq_3 rfl).symm
    · unfold zR_SF
      rw [c141, show m1 141 6 = m 141 6 from zfr_ap g1 zq_141 rfl, g3, q77]
      exact hSF
  · obtain ⟨k1, k2, k3, k4⟩ := zz_adopt n s1.1 s3.2.2.1 s3.2.2.2.1 s3.2.2.2.2.1 p m1 s5
    obtain ⟨r1, r2, r3, r4, r5, r6, r7, r8⟩ := s4
    obtain ⟨-, -, -, -, -, -, -, -, -, -, -, l1, l2, l3⟩ := zl_of (zk_31k n s1.2.1 zq_190 r8 r2 r3 r4) r m2 s6
    obtain ⟨dw, -, -, -, dc, -⟩ := s2
    have w4 : ma 19 4 = ta 190 20 := dw.2.2.2.2.2.1
    refine ⟨⟨⟨by rw [c89, k1, l1, w4], fun i i0 i1 i2 => ?_⟩, fun h9 => ?_⟩, ?_⟩
    · rw [l1, ← w4] at i2
      rw [cc89 i i0 i1, k2 i i0 i1 i2, l2 i i0 i1]
      exact (dc.2 i i0 i2).1
    · rw [c39, k3] at h9
      exact absurd h9 (by decide)
    · unfold zR_SF
      rw [c141, k4, l3]
/-- named -/
theorem zz_find (n : Nat) {a c : Int} {m t : zu_m} (h4 : m 89 4 = c) (hc : ∀ i, 0 ≤ i → i < 4 → i < c → m (89 + 2 + 20 + i) 0 = t 200 i) : ∀ (k : Nat) (x : Int), 0 ≤ x → x ≤ 4 → 4 - x < (k : Int) → zl (zu_ex (zt_T n) 212 2 [(27, 89), (0, a), (0, x)] [] m) (fun v _ => zl (zu_ex (zt_T n) 95 3 [(46, 200), (0, 0), (0, c), (0, a), (0, x)] [] t) (fun w _ => v = w)) := by
  intro k
  induction k with
  | zero => intro x x0 x1 hk; exfalso; omega
  | succ k ih =>
    intro x x0 x1 hk
    refine zl_eq (zu_rega_at (zt_T n) (zm_212 n) (zdp_212 n) _ _ _ _ _ _ (zr_212_2 n _ _ 89 a x m)) ?_
    rw [zu_rega_at (zt_T n) (zm_95 n) (zdp_95 n) _ _ _ _ _ _ (zr_95_3 n _ _ 200 0 c a x t), h4]
    refine zl_ite (fun h => ?_) (fun h => zl_if (fun hx => ?_))
    · rw [if_pos h]
      exact zl_some (zl_some rfl)
    · rw [if_neg h, Int.zero_add, zu_w32_id (z := x) (by omega) (by omega), if_pos (show 0 ≤ x ∧ x < 8 by omega), hc x x0 hx.2 (Int.not_le.mp h), zW19 x0 (Int.lt_trans hx.2 (by decide))]
      by_cases e : t 200 x = a
      · rw [if_neg (show ¬ t 200 x ≠ a from fun q => q e), if_neg (show ¬ t 200 x ≠ a from fun q => q e)]
        exact zl_some (zl_some rfl)
      · rw [if_pos (show t 200 x ≠ a from e), if_pos (show t 200 x ≠ a from e)]
        exact ih (x + 1) (by omega) (by omega) (zW15 hk)
theorem zz_namedL (n : Nat) {a b : Int} (hab : b = a) {m m1 m2 : zu_m} {v w : Int} {W : List (Nat × Nat)} (hNA : zR_NA m) (f1 : zfr W m m1) (d1 : zdis W [(28, 16), (109, 0)] = true) (e1 : zu_call (zt_T n) 44 [(5, 3), (0, a)] m = some (v, m1)) (e2 : zu_call (zt_T n) 108 [(40, 190), (0, b)] m1 = some (w, m2)) : v = w := by
  subst hab
  have q := zdis_fr f1 d1
  obtain ⟨h1, h2⟩ := hNA.1
  have h : zl (zu_call (zt_T n) 44 [(5, 3), (0, b)] m) (fun v _ => zl (zu_call (zt_T n) 108 [(40, 190), (0, b)] m1) (fun w _ => v = w)) := by
    refine zl_eq (zu_call_at (zt_T n) (zm_44 n) (zdp_44 n) _ _ _ _ _ rfl (zr_44_0 n _ _ 3 b m)) ?_
    rw [zu_call_at (zt_T n) (zm_108 n) (zdp_108 n) _ _ _ _ _ rfl (zr_108_0 n _ _ 190 b m1)]
    generalize ht : zu_up m1 190 2 0 = t
    have e15 : t 190 15 = m 190 15 := (zs_ne ht (Or.inr (by decide))).trans (q 190 15 (by rw [zq_190]; rfl))
    rw [e15]
    refine zl_pair (P := fun v _ w _ => v = w) ?_ (fun v _ w _ hp => zl_some (zl_some hp))
    refine zl_eq (zu_call_at (zt_T n) (zm_212 n) (zdp_212 n) _ _ _ _ _ rfl (zr_212_0 n _ _ 89 b m)) ?_
    rw [zu_call_at (zt_T n) (zm_95 n) (zdp_95 n) _ _ _ _ _ rfl (zr_95_0 n _ _ 200 0 (m 190 15) b t)]
    exact zz_find n h1 (fun i i0 i1 i2 => (h2 i i0 i1 i2).trans ((zs_ne ht (Or.inl (by decide))).trans (q 200 i (by rw [zq_200]; rfl))).symm) 5 0 (by decide) (by decide) (by decide)
  exact h v m1 e1 w m2 e2

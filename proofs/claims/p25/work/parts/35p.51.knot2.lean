/-! layWaiting and bind lay the same knots -/
theorem zK1 {W : Int} (h : ¬ W ≤ 0) : 0 ≤ W - 1 ∧ W - 1 < W ∧ W.toNat = (W - 1).toNat + 1 ∧ (((W - 1).toNat : Nat) : Int) = W - 1 := by omega
theorem zK2 {W : Int} (h : ¬ W ≤ 0) (h2 : W ≤ 72) : zu_w32 (W - 1) = W - 1 ∧ W - 1 < 72 ∧ W - 1 < 96 ∧ W - 1 ≤ 72 := ⟨zu_w32_id (by omega) (by omega), by omega, by omega, by omega⟩
theorem zoq_r {c r : Int} (h : zoq c r) (h0 : r ≠ 0) : (r = 2 ∧ c = 15) ∨ (3 ≤ r ∧ r ≠ 2) := by
  rcases zoq_all h with ⟨-, rfl⟩ | ⟨rfl, rfl⟩ | ⟨-, rfl⟩ | ⟨-, rfl⟩ | ⟨-, rfl⟩ | ⟨-, rfl⟩ | ⟨-, rfl⟩ | ⟨-, rfl⟩ | ⟨-, rfl⟩ | ⟨-, rfl⟩ | ⟨-, rfl⟩ | ⟨-, rfl⟩ | ⟨-, rfl⟩ | ⟨-, rfl⟩
  · exact absurd rfl h0
  · exact Or.inl ⟨rfl, rfl⟩
  all_goals exact Or.inr (by decide)
theorem zz_layK (n : Nat) {b b' f : Int} (hb1 : 1 ≤ b) : ∀ (k : Nat) (m t : zu_m) (W : Int), zR_BX m → m 47 3 = W → t 190 45 = W → 0 ≤ W → W ≤ 72 → (∀ i, 0 ≤ i → i < W → zoq (m 48 i) (t 211 i)) → zord (t 211) W.toNat → (b = b' ∨ (b = 4 ∧ b' = 5 ∧ zhq (t 211) W.toNat = false)) → zKA f m t → t 190 46 ≤ 96 → W ≤ (k : Int) → zl (zu_ex (zt_T n) 206 0 [(24, 47), (0, b)] [] m) (fun _ m' => zl (z112 n b' t) (fun _ t' => zKA f m' t' ∧ t' 190 46 ≤ 96)) := by
  intro k
  induction k with
  | zero =>
    intro m t W hX e3 e45 h0 h72 ho hord hbb hA h96 hk
    refine zl_eq (zu_rega_at (zt_T n) (zm_206 n) (zdp_206 n) _ _ _ _ _ _ (zr_206_0 n _ _ 47 b m)) ?_
    have hz : W ≤ 0 := hk
    unfold z112
    rw [e3, e45, if_pos hz, if_pos hz]
    exact zl_some (zl_some ⟨hA, h96⟩)
  | succ k ih =>
    intro m t W hX e3 e45 h0 h72 ho hord hbb hA h96 hk
    refine zl_eq (zu_rega_at (zt_T n) (zm_206 n) (zdp_206 n) _ _ _ _ _ _ (zr_206_0 n _ _ 47 b m)) ?_
    unfold z112
    rw [e3, e45]
    by_cases hz : W ≤ 0
    · rw [if_pos hz, if_pos hz]
      exact zl_some (zl_some ⟨hA, h96⟩)
    obtain ⟨k1, k2, k3, k4⟩ := zK1 hz
    obtain ⟨w1, w2, w3, w4⟩ := zK2 hz h72
    have hoq := ho (W - 1) k1 k2
    have hrk := zBX_op hX hoq
    rw [if_neg hz, if_neg hz, w1]
    refine zl_if (fun _ => zl_if (fun _ => ?_))
    rw [hrk, zc_109, zu_bds, e45, w1, if_pos (show 0 ≤ W - 1 ∧ W - 1 < 96 from ⟨k1, w3⟩)]
    by_cases hp : zrk (t 211 (W - 1)) < b
    · have hp' : zrk (t 211 (W - 1)) < b' := by
        rcases hbb with q | ⟨q1, q2, -⟩
        · rw [← q]; exact hp
        · rw [q2]; rw [q1] at hp; exact Int.lt_trans hp (by decide)
      rw [if_pos hp, if_pos hp']
      exact zl_some (zl_some ⟨hA, h96⟩)
    have hp' : ¬ zrk (t 211 (W - 1)) < b' := by
      rcases hbb with q | ⟨q1, q2, q3⟩
      · rw [← q]; exact hp
      · rw [q2]
        intro h5
        rw [q1] at hp
        have h4 := zW5 (Int.not_lt.mp hp) h5
        rw [k3] at q3
        have : zhq (t 211) ((W - 1).toNat + 1) = true := by
          show (if t 211 (((W - 1).toNat : Nat) : Int) = 0 then false else (decide (zrk (t 211 (((W - 1).toNat : Nat) : Int)) = 4) || zhq (t 211) (W - 1).toNat)) = true
          rw [k4, if_neg (fun q => by rw [q, zrk_0] at h4; exact absurd h4 (by decide)), h4]
          rfl
        rw [this] at q3
        cases q3
    have hr0 : t 211 (W - 1) ≠ 0 := fun q => by
      rw [q, zrk_0] at hp
      exact hp (Int.lt_of_lt_of_le (by decide) hb1)
    rw [if_neg hp, if_neg hp']
    generalize hm1 : zu_up m 47 3 (W - 1) = m1
    have m13 : m1 47 3 = W - 1 := zs_eq hm1
    have m148 : ∀ i, m1 48 i = m 48 i := fun i => zs_ne hm1 (Or.inl (by decide))
    have m12 : ∀ i, m1 2 i = m 2 i := fun i => zs_ne hm1 (Or.inl (by decide))
    have m16 : m1 10 6 = m 10 6 := zs_ne hm1 (Or.inl (by decide))
    rw [m13, m148]
    refine zl_if (fun _ => ?_)
    generalize ht1 : zu_up t 190 45 (W - 1) = t1
    have t45 : t1 190 45 = W - 1 := zs_eq ht1
    have t211 : ∀ i, t1 211 i = t 211 i := fun i => zs_ne ht1 (Or.inl (by decide))
    have t21 : t1 190 21 = t 190 21 := zs_ne ht1 (Or.inr (by decide))
    have t46 : t1 190 46 = t 190 46 := zs_ne ht1 (Or.inr (by decide))
    rw [t45, t211]
    have hA1 : zKA f m1 t1 := zKA_mv hA m16 (fun i => zs_ne hm1 (Or.inl (by decide))) (fun i => zs_ne hm1 (Or.inl (by decide))) t21 t46 (fun i => zs_ne ht1 (Or.inl (by decide))) (fun i => zs_ne ht1 (Or.inl (by decide))) (fun i => zs_ne ht1 (Or.inl (by decide))) (fun i => zs_ne ht1 (Or.inl (by decide)))
    have hA1' := hA1
    obtain ⟨a1, a2, a3, a4, a5, -, -⟩ := hA1'
    -- the reference lays a knot k of what it drops
    have go : ∀ (s : zu_m) (a b2 x2 x3 x4 : Int) (h' : Int), (∀ d i, (d ≠ 190 ∨ i ≠ 46) → s d i = t1 d i) → s 190 46 = h' → 0 ≤ h' → h' + 1 ≤ t1 190 46 → ((t 211 (W - 1) = 2 ∧ m 48 (W - 1) = 15 ∧ h' + 1 = t1 190 46 ∧ a = t1 212 h') ∨ (3 ≤ t 211 (W - 1) ∧ zoq (m 48 (W - 1)) (t 211 (W - 1)) ∧ h' + 2 = t1 190 46 ∧ b2 = t1 212 (h' + 1) ∧ a = t1 212 h')) → zl (zu_bd (zu_call (zt_T n) 110 [(40, 190), (0, t 211 (W - 1)), (0, a), (0, b2)] s) (fun v70 s70 => (zu_ex (zt_T n) 112 0 [(40, 190), (0, b'), (0, x2), (0, x3), (0, x4)] [] s70))) (fun w t' => zl (zu_bd (zu_call (zt_T n) 207 [(10, 10), (0, m 48 (W - 1)), (0, 0)] m1) (fun v50 s50 => (zu_ex (zt_T n) 206 0 [(24, 47), (0, b)] [] s50))) (fun v m' => zKA f m' t' ∧ t' 190 46 ≤ 96)) := by
      intro s a b2 x2 x3 x4 h' hs hs46 h'0 h'1 hk2
      have s21 : s 190 21 = t1 190 21 := hs _ _ (Or.inr (by decide))
      have s45 : s 190 45 = W - 1 := (hs _ _ (Or.inr (by decide))).trans t45
      by_cases hn : t1 190 21 < 64
      · refine zl_bd (zl_mono (zl_both (zy_110 n (by rw [s21]; exact hn) (by rw [s21]; omega) ⟨by rw [hs46]; exact h'0, by rw [hs46]; omega⟩) (zz_110 n)) (fun _ s2 hs2 => ?_))
        obtain ⟨⟨c1, c2, c3, c4, c5, c6, c7, c8, c9, c10⟩, g1⟩ := hs2
        rw [s21] at c1 c2 c3 c4 c5 c6 c7 c9
        rw [hs46] at c8 c9 c10
        refine zl_eq (z112_b n b' x2 x3 x4 s2) ?_
        refine zl_swap ?_
        refine zl_bd (zl_mono (zl_both (zy_207 n (by rw [a1]; exact hn) (by rw [a1]; omega)) (zz_207 n)) (fun _ m2 hm2 => ?_))
        obtain ⟨⟨d1, d2, d3, d4, d5⟩, f1⟩ := hm2
        have x208 : ∀ i, s 208 i = t1 208 i := fun i => hs _ _ (Or.inl (by decide))
        have x209 : ∀ i, s 209 i = t1 209 i := fun i => hs _ _ (Or.inl (by decide))
        have x210 : ∀ i, s 210 i = t1 210 i := fun i => hs _ _ (Or.inl (by decide))
        have x212 : ∀ i, s 212 i = t1 212 i := fun i => hs _ _ (Or.inl (by decide))
        have hA2 : zKA f m2 s2 := zKA_add (h' := h') hA1 hn d1 d2 d3 d4 d5 c1 c2 c3 c4 (fun i hi => (c5 i hi).trans (x208 i)) (fun i hi => (c6 i hi).trans (x209 i)) (fun i hi => (c7 i hi).trans (x210 i)) c8 h'0 c9 (fun i hi => (c10 i (by omega)).trans (x212 i)) (Or.inr hk2)
        have y211 : ∀ i, s2 211 i = t 211 i := fun i => (zfr_ap g1 zq_211 rfl).trans ((hs _ _ (Or.inl (by decide))).trans (t211 i))
        have y48 : ∀ i, m2 48 i = m 48 i := fun i => (zfr_ap f1 zq_48 rfl).trans (m148 i)
        have e211 : s2 211 = t 211 := funext y211
        refine ih m2 s2 (W - 1) (fun i i0 i1 => (zfr_ap f1 zq_2 rfl).trans ((m12 i).trans (hX i i0 i1))) ((zfr_ap f1 zq_47 rfl).trans m13) ((zfr_ap g1 zq_190 rfl).trans s45) k1 w4 (fun i i0 i1 => by rw [y48, y211]; exact ho i i0 (Int.lt_trans i1 k2)) ?_ ?_ hA2 (by rw [c8]; omega) (by omega)
        · rw [e211]; exact zord_le (zN1 (Int.le_of_lt k2)) hord
        · rw [e211]
          rcases hbb with q | ⟨q1, q2, q3⟩
          · exact Or.inl q
          · refine Or.inr ⟨q1, q2, ?_⟩
            rw [zhq_pop (w := t 211) (zN1 (Int.le_of_lt k2)) (fun i i0 i1 => ?_)] at q3
            · exact q3
            · have ei : (i : Int) = W - 1 := by omega
              rw [ei, ← q2]
              exact Int.not_lt.mp hp'
      · -- the reference has no room: nothing comes of it
        refine zl_bd ?_
        refine zl_eq (zu_call_at (zt_T n) (zm_110 n) (zdp_110 n) _ _ _ _ _ rfl (zr_110_0 n _ _ 190 (t 211 (W - 1)) a b2 s)) ?_
        have e64 : t1 190 21 = 64 := by omega
        rw [s21, e64, if_neg (show ¬ (0 ≤ zu_w32 (64 + 64) ∧ zu_w32 (64 + 64) < 128) by decide)]
        exact zl_none
    refine zl_swap (zl_if (fun _ => ?_))
    rcases zoq_r hoq hr0 with ⟨r2, c15⟩ | ⟨r3, r2⟩
    · rw [if_neg (fun q => q r2)]
      refine zl_bd ?_
      by_cases h1 : 1 ≤ t1 190 46
      · refine zl_mono (zy_111 n h1 (by rw [t46]; exact h96)) (fun v s hs => ?_)
        obtain ⟨g1, g2, g3⟩ := hs
        exact go s v (-1) _ _ _ (t1 190 46 - 1) g3 g2 (by omega) (by omega) (Or.inl ⟨r2, c15, by omega, g1⟩)
      · refine zl_eq (zu_call_at (zt_T n) (zm_111 n) (zdp_111 n) _ _ _ _ _ rfl (zr_111_0 n _ _ 190 t1)) ?_
        rw [zu_up_eq, zu_w32_id (z := t1 190 46 - 1) (by omega) (by omega), if_neg (by omega)]
        exact zl_none
    · rw [if_pos r2]
      refine zl_bd ?_
      by_cases h1 : 1 ≤ t1 190 46
      · refine zl_mono (zy_111 n h1 (by rw [t46]; exact h96)) (fun v s hs => ?_)
        obtain ⟨g1, g2, g3⟩ := hs
        refine zl_bd ?_
        by_cases h2 : 2 ≤ t1 190 46
        · refine zl_mono (zy_111 n (by rw [g2]; omega) (by rw [g2, t46]; omega)) (fun v2 s2 hs2 => ?_)
          obtain ⟨q1, q2, q3⟩ := hs2
          rw [g2] at q1 q2
          refine go s2 v2 v _ _ _ (t1 190 46 - 2) (fun d i h => (q3 d i h).trans (g3 d i h)) (by omega) (by omega) (by omega) (Or.inr ⟨r3, hoq, by omega, ?_, ?_⟩)
          · rw [show t1 190 46 - 2 + 1 = t1 190 46 - 1 by omega]; exact g1
          · rw [q1, show t1 190 46 - 1 - 1 = t1 190 46 - 2 by omega]
            exact g3 _ _ (Or.inl (by decide))
        · refine zl_eq (zu_call_at (zt_T n) (zm_111 n) (zdp_111 n) _ _ _ _ _ rfl (zr_111_0 n _ _ 190 s)) ?_
          rw [zu_up_eq, zu_w32_id (z := s 190 46 - 1) (by omega) (by omega), if_neg (by omega)]
          exact zl_none
      · refine zl_eq (zu_call_at (zt_T n) (zm_111 n) (zdp_111 n) _ _ _ _ _ rfl (zr_111_0 n _ _ 190 t1)) ?_
        rw [zu_up_eq, zu_w32_id (z := t1 190 46 - 1) (by omega) (by omega), if_neg (by omega)]
        exact zl_none

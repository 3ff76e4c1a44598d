/-! what waits falls on both sides to the same place -/
theorem zhq_pop {w : Int → Int} {n n1 : Nat} (h : n1 ≤ n) (hr : ∀ i : Nat, n1 ≤ i → i < n → 5 ≤ zrk (w (i : Int))) : zhq w n = zhq w n1 := by
  have := zpop_h (w := w) (n' := n1) (n - n1) (fun i i0 i1 => hr i i0 (by rw [Nat.add_sub_cancel' h] at i1; exact i1))
  rw [Nat.add_sub_cancel' h] at this
  exact this
theorem zN5 {B : Int} (h : 0 < B) : B.toNat = (B - 1).toNat + 1 ∧ (((B - 1).toNat : Nat) : Int) = B - 1 := by omega
theorem zN6 {B : Int} {k : Nat} (h0 : 0 ≤ B) (h : B.toNat = k + 1) : 0 < B ∧ (k : Int) = B - 1 := by omega
theorem zW5 {a : Int} (h1 : 4 ≤ a) (h2 : a < 5) : a = 4 := by omega
theorem zhq_bind {w : Int → Int} {W B : Int} (hord : zord w W.toNat) (h0 : 0 ≤ B) (hle : B ≤ W) (htop : B = 0 ∨ zrk (w (B - 1)) < 5) (hall : ∀ i, B ≤ i → i < W → 5 ≤ zrk (w i)) : zhq w W.toNat = true ↔ (0 < B ∧ zrk (w (B - 1)) = 4) := by
  have hp := zhq_pop (w := w) (zN1 hle) (fun i i0 i1 => hall i (zN2 i0) (zN3 i1))
  rw [hp]
  constructor
  · intro hq
    obtain ⟨k, e1, -, e3⟩ := zhq_top B.toNat (zord_le (zN1 hle) hord) hq
    obtain ⟨f1, f2⟩ := zN6 h0 e1
    rw [f2] at e3
    rcases htop with q | q
    · rw [q] at f1; exact absurd f1 (Int.lt_irrefl 0)
    · exact ⟨f1, zW5 e3 q⟩
  · intro hq
    obtain ⟨e1, e2⟩ := zN5 hq.1
    rw [e1]
    show (if w (((B - 1).toNat : Nat) : Int) = 0 then false else (decide (zrk (w (((B - 1).toNat : Nat) : Int)) = 4) || zhq w (B - 1).toNat)) = true
    rw [e2, if_neg (fun q => by have := hq.2; rw [q, zrk_0] at this; exact absurd this (by decide)), hq.2]
    rfl
theorem zW6 {a b : Int} (h1 : a < b) : a ≤ b - 1 ∧ b - 1 < b := by omega
theorem zW7 {a b c : Int} (h0 : 0 ≤ a) (h1 : a < b) (h2 : b ≤ c) : 0 ≤ b - 1 ∧ b - 1 < c ∧ b ≠ 0 := by omega
theorem zlay2_eq {m t : zu_m} {b b' A B W : Int} (hB : zR_BX m) (ho : ∀ i, 0 ≤ i → i < W → zoq (m 48 i) (t 211 i)) (hord : zord (t 211) W.toNat) (hbb : b = b' ∨ (b = 4 ∧ b' = 5 ∧ zhq (t 211) W.toNat = false)) (a0 : 0 ≤ A) (aW : A ≤ W) (a4 : A = 0 ∨ m 2 (m 48 (A - 1)) < b) (a5 : ∀ i, A ≤ i → i < W → b ≤ m 2 (m 48 i)) (b0 : 0 ≤ B) (bW : B ≤ W) (b4 : B = 0 ∨ zrk (t 211 (B - 1)) < b') (b5 : ∀ i, B ≤ i → i < W → b' ≤ zrk (t 211 i)) : A = B := by
  have hle : b ≤ b' := by
    rcases hbb with q | ⟨q1, q2, -⟩
    · exact Int.le_of_eq q
    · rw [q1, q2]; decide
  rcases Int.lt_trichotomy A B with q | q | q
  · obtain ⟨p1, p2, p3⟩ := zW7 a0 q bW
    have c1 := a5 (B - 1) (zW6 q).1 p2
    rw [zBX_op hB (ho (B - 1) p1 p2)] at c1
    have c2 := b4.resolve_left p3
    rcases hbb with h | ⟨h1, h2, h3⟩
    · rw [h] at c1
      exact absurd c2 (Int.not_lt.mpr c1)
    · rw [h1] at c1
      rw [h2] at c2 b5 b4
      have := (zhq_bind hord b0 bW b4 b5).mpr ⟨Int.lt_of_le_of_lt a0 q, zW5 c1 c2⟩
      rw [h3] at this
      cases this
  · exact q
  · obtain ⟨p1, p2, p3⟩ := zW7 b0 q aW
    have c1 := b5 (A - 1) (zW6 q).1 p2
    have c2 := a4.resolve_left p3
    rw [zBX_op hB (ho (A - 1) p1 p2)] at c2
    exact absurd c2 (Int.not_lt.mpr (Int.le_trans hle c1))
theorem zW8 {a : Int} (h : a ≤ 72) : a ≤ ((72 : Nat) : Int) ∧ a ≤ 96 ∧ a ≤ ((96 : Nat) : Int) := by omega
theorem zz_lay2 (n : Nat) {m t : zu_m} {b b' W : Int} (hB : zR_BX m) (hW : zWM m t) (eW : t 190 45 = W) (hord : zord (t 211) W.toNat) (hbb : b = b' ∨ (b = 4 ∧ b' = 5 ∧ zhq (t 211) W.toNat = false)) : zl (zu_call (zt_T n) 206 [(24, 47), (0, b)] m) (fun _ m' => zl (zu_call (zt_T n) 112 [(40, 190), (0, b')] t) (fun _ t' => zfr [(5, 7), (10, 4), (33, 0), (34, 0)] m m' ∧ zfr [(28, 22), (28, 46), (28, 47), (117, 0), (118, 0), (119, 0), (121, 0)] t t' ∧ m' 47 3 = t' 190 45 ∧ 0 ≤ t' 190 45 ∧ t' 190 45 ≤ W ∧ (t' 190 45 = 0 ∨ zrk (t 211 (t' 190 45 - 1)) < b) ∧ ∀ i, t' 190 45 ≤ i → i < W → b' ≤ zrk (t 211 i))) := by
  obtain ⟨e, w0, w72, ho⟩ := hW
  rw [eW] at e w0 w72 ho
  have h1 : zl (zu_call (zt_T n) 206 [(24, 47), (0, b)] m) _ := show zl (zu_ex (zt_T n) 206 0 [(24, 47), (0, b)] [] m) _ from zz_206 n (b := b) 72 m (by rw [e]; exact w0) (by rw [e]; exact w72) (by rw [e]; exact w72)
  have h2 : zl (zu_call (zt_T n) 112 [(40, 190), (0, b')] t) _ := show zl (zu_ex (zt_T n) 112 0 [(40, 190), (0, b'), (2, 0), (2, 0), (2, 0)] [] t) _ from zl_eq (z112_a n b' t) (zz_112 n (b := b') 72 t (by rw [eW]; exact w0) (by rw [eW]; exact w72) (by rw [eW]; exact (zW8 w72).2.1))
  refine zl_mono h1 (fun _ m' hs => zl_mono h2 (fun _ t' hs2 => ?_))
  obtain ⟨g1, g2, g3, g4, g5⟩ := hs
  obtain ⟨k1, k2, k3, k4, k5⟩ := hs2
  rw [e] at g3 g5
  rw [eW] at k3 k5
  have hAB := zlay2_eq hB ho hord hbb g2 g3 g4 g5 k2 k3 k4 k5
  refine ⟨g1, k1, hAB, k2, k3, ?_, k5⟩
  rcases g4 with q | q
  · exact Or.inl (hAB.symm.trans q)
  · by_cases z : t' 190 45 = 0
    · exact Or.inl z
    · refine Or.inr ?_
      rw [hAB] at q
      rw [← zBX_op hB (ho (t' 190 45 - 1) (by clear q hord hbb g5 k4 k5 ho; omega) (by clear q hord hbb g5 k4 k5 ho; omega))]
      exact q
/-- behind both binds: the sign on top of both -/
theorem zkd_fg {c r : Int} {w : Int → Int} {W W1 b' : Int} (hkd : zkd c r) (hb' : b' = if zrk r = 4 then 5 else zrk r) (hord : zord w W.toNat) (h0 : 0 ≤ W1) (hle : W1 ≤ W) (htop : W1 = 0 ∨ zrk (w (W1 - 1)) < zrk r) (hall : ∀ i, W1 ≤ i → i < W → b' ≤ zrk (w i)) : zFg (zCm c) (zJn c) (zb01 (zhq w W.toNat)) = zb01 (decide (zrk r = 4) || zhq w W1.toNat) := by
  rcases hkd with ⟨h1, h2, h3⟩ | ⟨h1, h2, h3, h4⟩ | ⟨h1, h2, h3⟩
  · rw [h1, h2]; rfl
  · have h5 : zrk r ≠ 4 := fun q => by rw [q] at h4; exact absurd h4 (by decide)
    have : zhq w W1.toNat = false := by
      refine zhq_low (zord_le (zN1 hle) hord) ?_
      rw [Int.toNat_of_nonneg h0]
      rcases htop with q | q
      · left; rw [q]; rfl
      · right; exact Int.lt_of_lt_of_le q (Int.le_trans h4 (by decide))
    rw [h1, h2, this, decide_eq_false h5]
    rfl
  · have h5 : zrk r ≠ 4 := fun q => by rw [q] at h3; exact absurd h3 (by decide)
    rw [if_neg h5] at hb'
    rw [hb'] at hall
    rw [h1, h2, decide_eq_false h5, zhq_pop (w := w) (zN1 hle) (fun i i0 i1 => Int.le_trans h3 (hall i (zN2 i0) (zN3 i1)))]
    cases zhq w W1.toNat <;> rfl
theorem zkd_jn {c r : Int} (hkd : zkd c r) : zJn c = if 3 ≤ zrk r then 0 else 1 := by
  rcases hkd with ⟨h1, h2, h3⟩ | ⟨h1, h2, h3, h4⟩ | ⟨h1, h2, h3⟩
  · rw [h3, h2]; rfl
  · rw [h2, if_neg (fun q => absurd (Int.le_trans q h4) (by decide))]
  · rw [h2, if_pos (Int.le_trans (by decide) h3)]
theorem zW9 {a b c d : Int} (h1 : a ≤ b) (h2 : b ≤ c + d) : a + 1 ≤ c + 1 + d := by omega
theorem zW10 {a b c d : Int} (h1 : a ≤ b) (h2 : b ≤ c + d) (h3 : c < 64) (h4 : d ≤ 8) : a < 72 ∧ a + 1 ≤ 72 ∧ a < 96 ∧ a ≤ 96 := by omega
theorem zW14 {a b : Int} (h1 : a ≤ b) (h2 : a ≠ b) : a < b := by omega
theorem zW11 {a : Int} (h1 : 0 ≤ a) (h2 : a < 64) : 0 ≤ a + 1 ∧ a + 1 ≤ 64 := by omega
theorem zbeh_fm {m t m2 m3 t' : zu_m} {c r W o W1 b' : Int} (hF : zFM m t) (hW : t 190 45 = W) (ho : t 190 47 = o) (hz : zoq c r) (hr0 : r ≠ 0) (hkd : zkd c r) (hb' : b' = if zrk r = 4 then 5 else zrk r) (h64 : t 190 48 < 64) (hm2 : zu_up (zu_up (zu_up (zu_up m 10 5 (m 10 5 + 1)) 49 (m 47 4) (zFg (zCm c) (zJn c) (m 49 (m 47 4)))) 47 6 1) 47 7 (zJn c) = m2) (f1 : zfr [(5, 7), (10, 4), (33, 0), (34, 0)] m2 m3) (q1 : m3 47 3 = W1) (q2 : 0 ≤ W1) (q3 : W1 ≤ W) (q4 : W1 = 0 ∨ zrk (t 211 (W1 - 1)) < zrk r) (q5 : ∀ i, W1 ≤ i → i < W → b' ≤ zrk (t 211 i)) (x1 : t' 190 48 = t 190 48 + 1) (x2 : t' 211 W1 = r) (x3 : ∀ i, i ≠ W1 → t' 211 i = t 211 i) (x4 : t' 190 45 = W1 + 1) (x5 : t' 190 49 = 1) (x6 : t' 190 50 = if 3 ≤ zrk r then 0 else 1) (x7 : t' 190 47 = o) : zFM (zu_up (zu_up m3 48 (m3 47 3) c) 47 3 (m3 47 3 + 1)) t' := by
  have hF0 := hF
  obtain ⟨⟨-, a2, a3, a4⟩, ⟨b1, b2, b3⟩, ⟨c1, c2⟩, d, -, ⟨k1, k2, k3, k4⟩, -⟩ := hF
  rw [ho] at b1 b2 c1 k4
  rw [hW] at c1 d k4
  rw [b1] at hm2
  have y48 : ∀ i, m3 48 i = m 48 i := fun i => (zfr_ap f1 zq_48 rfl).trans (by rw [← hm2]; simp [zu_up_app])
  have y49 : m3 49 o = zb01 (decide (zrk r = 4) || zhq (t 211) W1.toNat) := (zfr_ap f1 zq_49 rfl).trans (by rw [← hm2, c1]; simp [zu_up_app]; exact zkd_fg hkd hb' d q2 q3 q4 q5)
  have y49' : ∀ i, i ≠ o → m3 49 i = m 49 i := fun i hi => (zfr_ap f1 zq_49 rfl).trans (by rw [← hm2]; simp [zu_up_app, hi])
  have y4 : m3 47 4 = o := (zfr_ap f1 zq_47 rfl).trans (by rw [← hm2]; simp [zu_up_app, b1])
  have y6 : m3 47 6 = 1 := (zfr_ap f1 zq_47 rfl).trans (by rw [← hm2]; simp [zu_up_app])
  have y7 : m3 47 7 = zJn c := (zfr_ap f1 zq_47 rfl).trans (by rw [← hm2]; simp [zu_up_app])
  have y5 : m3 10 5 = t 190 48 + 1 := (zfr_ap f1 zq_10 rfl).trans (by rw [← hm2]; simp [zu_up_app, k1])
  rw [q1]
  generalize hm' : zu_up (zu_up m3 48 W1 c) 47 3 (W1 + 1) = m'
  have hbb : 1 ≤ b' := by
    rw [hb']
    rcases hkd with ⟨-, h2, -⟩ | ⟨-, -, h3, h4⟩ | ⟨-, -, h3⟩
    · rw [if_pos h2]; decide
    · split
      · decide
      · exact h3
    · split
      · decide
      · exact Int.le_trans (by decide) h3
  have hW10 := zW10 q3 k4 h64 b2
  refine zFM_op (W1 := W1) (b := b') (o := o) (c := c) (r := r) hF0 hW ho hz hr0 hbb q2 q3 q5 q4 ?_ ?_ x2 x3 ?_ x4 hW10.2.1 ?_ x7 ?_ ?_ ⟨?_, ?_⟩ ⟨?_, ?_, ?_, ?_⟩ (fun _ z => ?_)
  · rw [← hm']; simp [zu_up_app]
  · exact fun i hi => by rw [← hm']; simp [zu_up_app, hi, y48]
  · rw [← hm']; simp [zu_up_app]
  · rw [← hm']; simp [zu_up_app, y4]
  · rw [← hm', ← y49]; simp [zu_up_app]
  · exact fun i hi => by rw [← hm', ← y49' i hi]; simp [zu_up_app]
  · rw [← hm', x5]; simp [zu_up_app, y6]
  · rw [← hm', x6, ← zkd_jn hkd]; simp [zu_up_app, y7]
  · rw [← hm', x1, ← y5]; simp [zu_up_app]
  · rw [x1]; exact (zW11 k2 h64).1
  · rw [x1]; exact (zW11 k2 h64).2
  · rw [x1]; exact zW9 q3 k4
  · rw [x6] at z
    by_cases h : 3 ≤ zrk r
    · rw [if_pos h] at z; exact absurd rfl z
    · exact Int.le_of_lt (Int.not_le.mp h)

/-! bind -/
theorem zz_112 (n : Nat) {b : Int} : ∀ (k : Nat) (t : zu_m), 0 ≤ t 190 45 → t 190 45 ≤ (k : Int) → t 190 45 ≤ 96 → zl (z112 n b t) (fun _ t' => zfr [(28, 22), (28, 46), (28, 47), (117, 0), (118, 0), (119, 0), (121, 0)] t t' ∧ 0 ≤ t' 190 45 ∧ t' 190 45 ≤ t 190 45 ∧ (t' 190 45 = 0 ∨ zrk (t 211 (t' 190 45 - 1)) < b) ∧ ∀ i, t' 190 45 ≤ i → i < t 190 45 → b ≤ zrk (t 211 i)) := by
  intro k
  induction k with
  | zero =>
    intro t h0 hk h96
    unfold z112
    refine zl_ite (fun h => zl_some ⟨zfr_rf _ _, h0, by omega, Or.inl (by omega), fun i i0 i1 => by exfalso; omega⟩) (fun h => ?_)
    exfalso; omega
  | succ k ih =>
    intro t h0 hk h96
    unfold z112
    refine zl_ite (fun h => zl_some ⟨zfr_rf _ _, h0, by omega, Or.inl (by omega), fun i i0 i1 => by exfalso; omega⟩) (fun h => ?_)
    rw [zu_w32_id (z := t 190 45 - 1) (by omega) (by omega)]
    refine zl_if (fun h1 => ?_)
    rw [zc_109, zu_bds]
    refine zl_ite (fun h3 => zl_some ⟨zfr_rf _ _, h0, by omega, Or.inr h3, fun i i0 i1 => by exfalso; omega⟩) (fun h3 => ?_)
    rw [zu_w32_id (z := t 190 45 - 1) (by omega) (by omega)]
    generalize hm1 : zu_up t 190 45 (t 190 45 - 1) = t1
    have hf1 : zfr [(28, 46)] t t1 := zfr_up hm1 (zfr_rf _ _) zq_190 rfl
    have e3 : t1 190 45 = t 190 45 - 1 := zs_eq hm1
    have fin : ∀ (k' v55 v60 : Int) (t3 : zu_m), zfr [(28, 22), (28, 47), (117, 0), (118, 0), (119, 0), (121, 0)] t1 t3 → zl (zu_ex (zt_T n) 112 0 [(40, 190), (0, b), (0, k'), (0, v55), (0, v60)] [] t3) (fun _ t' => zfr [(28, 22), (28, 46), (28, 47), (117, 0), (118, 0), (119, 0), (121, 0)] t t' ∧ 0 ≤ t' 190 45 ∧ t' 190 45 ≤ t 190 45 ∧ (t' 190 45 = 0 ∨ zrk (t 211 (t' 190 45 - 1)) < b) ∧ ∀ i, t' 190 45 ≤ i → i < t 190 45 → b ≤ zrk (t 211 i)) := fun k' v55 v60 t3 hf3 => by
      refine zl_eq (z112_b n b k' v55 v60 t3) ?_
      have f3 : t3 190 45 = t 190 45 - 1 := (zfr_ap hf3 zq_190 rfl).trans e3
      have f211 : ∀ i, t3 211 i = t 211 i := fun i => (zfr_ap hf3 zq_211 rfl).trans (zfr_ap hf1 zq_211 rfl)
      refine zl_mono (ih t3 (by omega) (by omega) (by omega)) (fun _ t4 hs => ?_)
      obtain ⟨g1, g2, g3, g4, g5⟩ := hs
      refine ⟨zfr_tr (zfr_tr (zfr_tr (zfr_rf _ t) hf1 rfl) hf3 rfl) g1 rfl, g2, by omega, ?_, fun i i0 i1 => ?_⟩
      · rw [f211] at g4; exact g4
      · by_cases e : i = t 190 45 - 1
        · rw [e]; omega
        · have := g5 i i0 (by omega)
          rw [f211] at this
          exact this
    refine zl_if (fun h4 => ?_)
    refine zl_ite (fun h5 => ?_) (fun h5 => ?_)
    · refine zl_bd (zl_mono (zz_111 n) (fun v55 s1 q1 => ?_))
      refine zl_bd (zl_mono (zz_111 n) (fun v60 s2 q2 => ?_))
      refine zl_bd (zl_mono (zz_110 n) (fun _ s3 q3 => ?_))
      exact fin _ _ _ s3 (zfr_tr (zfr_tr (zfr_tr (zfr_rf _ t1) q1 rfl) q2 rfl) q3 rfl)
    · refine zl_bd (zl_mono (zz_111 n) (fun v60 s2 q2 => ?_))
      refine zl_bd (zl_mono (zz_110 n) (fun _ s3 q3 => ?_))
      exact fin _ _ _ s3 (zfr_tr (zfr_tr (zfr_rf _ t1) q2 rfl) q3 rfl)
/-! kinds of what waits -/
def zoq (c r : Int) : Prop := (c = 1 ∧ r = 0) ∨ (c = 15 ∧ r = 2) ∨ (c = 13 ∧ r = 4) ∨ (c = 14 ∧ r = 3) ∨ (c = 3 ∧ r = 11) ∨ (c = 4 ∧ r = 12) ∨ (c = 5 ∧ r = 13) ∨ (c = 6 ∧ r = 14) ∨ (7 ≤ c ∧ c ≤ 12 ∧ r = c - 2)
def zbnd : List Int := [0, 0, 0, 5, 5, 6, 6, 4, 4, 4, 4, 4, 4, 1, 2, 3, 0, 0]
def zR_BX (m : zu_m) : Prop := ∀ i, 0 ≤ i → i < 18 → m 2 i = zbnd.getD i.toNat 0
theorem zBX_op {m : zu_m} {c r : Int} (h : zR_BX m) (ho : zoq c r) : m 2 c = zrk r := by
  unfold zoq at ho
  rw [h c (by omega) (by omega)]
  have hc : c = 1 ∨ c = 15 ∨ c = 13 ∨ c = 14 ∨ c = 3 ∨ c = 4 ∨ c = 5 ∨ c = 6 ∨ c = 7 ∨ c = 8 ∨ c = 9 ∨ c = 10 ∨ c = 11 ∨ c = 12 := by omega
  rcases hc with rfl | rfl | rfl | rfl | rfl | rfl | rfl | rfl | rfl | rfl | rfl | rfl | rfl | rfl
  · obtain rfl : r = 0 := by omega
    decide
  · obtain rfl : r = 2 := by omega
    decide
  · obtain rfl : r = 4 := by omega
    decide
  · obtain rfl : r = 3 := by omega
    decide
  · obtain rfl : r = 11 := by omega
    decide
  · obtain rfl : r = 12 := by omega
    decide
  · obtain rfl : r = 13 := by omega
    decide
  · obtain rfl : r = 14 := by omega
    decide
  · obtain rfl : r = 5 := by omega
    decide
  · obtain rfl : r = 6 := by omega
    decide
  · obtain rfl : r = 7 := by omega
    decide
  · obtain rfl : r = 8 := by omega
    decide
  · obtain rfl : r = 9 := by omega
    decide
  · obtain rfl : r = 10 := by omega
    decide
def zWM (m t : zu_m) : Prop := m 47 3 = t 190 45 ∧ 0 ≤ t 190 45 ∧ t 190 45 ≤ 72 ∧ ∀ i, 0 ≤ i → i < t 190 45 → zoq (m 48 i) (t 211 i)
/-- layWaiting and bind -/
theorem zz_lay (n : Nat) {m t : zu_m} {b : Int} (hB : zR_BX m) (hW : zWM m t) : zl (zu_call (zt_T n) 206 [(24, 47), (0, b)] m) (fun _ m' => zl (zu_call (zt_T n) 112 [(40, 190), (0, b)] t) (fun _ t' => zfr [(5, 7), (10, 4), (33, 0), (34, 0)] m m' ∧ zfr [(28, 22), (28, 46), (28, 47), (117, 0), (118, 0), (119, 0), (121, 0)] t t' ∧ m' 47 3 = t' 190 45 ∧ 0 ≤ t' 190 45 ∧ t' 190 45 ≤ t 190 45 ∧ (t' 190 45 = 0 ∨ zrk (t 211 (t' 190 45 - 1)) < b) ∧ ∀ i, t' 190 45 ≤ i → i < t 190 45 → b ≤ zrk (t 211 i))) := by
  obtain ⟨e, w0, w72, ho⟩ := hW
  have h1 : zl (zu_call (zt_T n) 206 [(24, 47), (0, b)] m) _ := show zl (zu_ex (zt_T n) 206 0 [(24, 47), (0, b)] [] m) _ from zz_206 n (b := b) 72 m (by omega) (by omega) (by omega)
  have h2 : zl (zu_call (zt_T n) 112 [(40, 190), (0, b)] t) _ := show zl (zu_ex (zt_T n) 112 0 [(40, 190), (0, b), (2, 0), (2, 0), (2, 0)] [] t) _ from zl_eq (z112_a n b t) (zz_112 n (b := b) 72 t w0 (by omega) (by omega))
  refine zl_mono h1 (fun _ m' hs => zl_mono h2 (fun _ t' hs2 => ?_))
  obtain ⟨g1, g2, g3, g4, g5⟩ := hs
  obtain ⟨k1, k2, k3, k4, k5⟩ := hs2
  refine ⟨g1, k1, ?_, k2, k3, k4, k5⟩
  rcases Int.lt_trichotomy (m' 47 3) (t' 190 45) with q | q | q
  · have a1 := g5 (t' 190 45 - 1) (by omega) (by omega)
    rw [zBX_op hB (ho (t' 190 45 - 1) (by omega) (by omega))] at a1
    rcases k4 with k4 | k4
    · exfalso; omega
    · exfalso; omega
  · exact q
  · have a1 := k5 (m' 47 3 - 1) (by omega) (by omega)
    rcases g4 with g4 | g4
    · exfalso; omega
    · rw [zBX_op hB (ho (m' 47 3 - 1) (by omega) (by omega))] at g4
      exfalso; omega

/-! behind a part, side by side: a sign that joins -/
theorem zKV_cl {k v : Int} (h : zKV k v 4 41) : k = 4 ∧ v = 2 := by
  unfold zKV at h
  omega
theorem zKV_cr {k' w : Int} (h : zKV 4 2 k' w) : k' = 4 ∧ w = 41 := by
  unfold zKV at h
  omega
theorem zKV_5 {k v w : Int} (h : zKV k v 5 w) : 0 ≤ w ∧ w ≤ 5 := by
  unfold zKV at h
  omega
theorem zbeh_cmp (n : Nat) {m t : zu_m} {c r : Int} (hF : zFM m t) (hk : ¬ (m 45 4 = 4 ∧ m 45 5 = 2 ∧ 0 < m 47 4)) (hk' : ¬ (t 190 8 = 4 ∧ t 190 9 = 41 ∧ 0 < t 190 47)) (hb : t 190 8 = 5 → 0 ≤ t 190 9 ∧ t 190 9 ≤ 5) (hoc : zOp (m 45 4) (m 45 5) = c) (hor : zRk (t 190 8) (t 190 9) = r) (hc1 : c ≠ -1) (hr0 : r ≠ 0) (hm : zCm c ≠ 0) (hr4 : zrk r = 4) (hq : zhq (t 211) (t 190 45).toNat = true) : zl (zu_call (zt_T n) 202 [(24, 47)] m) (fun v _ => zl (zu_call (zt_T n) 117 [(40, 190)] t) (fun w t' => v = 1 ∧ w = 0 ∧ zFT t t' 1)) := by
  obtain ⟨⟨a1, a2, a3, a4⟩, ⟨b1, b2, b3⟩, ⟨c1, c2⟩, d, -⟩ := hF
  have hf : m 49 (m 47 4) ≠ 0 := by rw [b1, c1, hq]; decide
  refine zl_mono (zz_202_cmp n hk hoc hc1 hm hf) (fun v _ hv => ?_)
  refine zl_mono (zz_117_op n (Q := fun w t' => w = 0 ∧ zFT t t' 1) hk' hb hor hr0 ?_) (fun w t' h => ⟨hv, h⟩)
  rw [if_pos hr4]
  have h2 : zl (zu_call (zt_T n) 112 [(40, 190), (0, 5)] t) _ := show zl (zu_ex (zt_T n) 112 0 [(40, 190), (0, 5), (2, 0), (2, 0), (2, 0)] [] t) _ from zl_eq (z112_a n 5 t) (zz_112 n (b := 5) 72 t a2 a3 (zW8 a3).2.1)
  refine zl_mono h2 (fun _ s hs => ?_)
  obtain ⟨g1, g2, g3, g4, g5⟩ := hs
  have f211 : ∀ i, s 211 i = t 211 i := fun i => zfr_ap g1 zq_211 rfl
  have hx := (zhq_bind d g2 g3 g4 g5).mp hq
  refine ⟨g2, (zW8 (Int.le_trans g3 a3)).2.1, fun _ => ⟨rfl, zFT_R (zfr_ap g1 zq_190 rfl)⟩, fun q => absurd ?_ q⟩
  rw [f211]
  exact ⟨hr4, hx⟩
theorem zbeh_full (n : Nat) {m t : zu_m} {c r : Int} (hF : zFM m t) (hB : zTB t) (hk : ¬ (m 45 4 = 4 ∧ m 45 5 = 2 ∧ 0 < m 47 4)) (hk' : ¬ (t 190 8 = 4 ∧ t 190 9 = 41 ∧ 0 < t 190 47)) (hb : t 190 8 = 5 → 0 ≤ t 190 9 ∧ t 190 9 ≤ 5) (hoc : zOp (m 45 4) (m 45 5) = c) (hor : zRk (t 190 8) (t 190 9) = r) (hc1 : c ≠ -1) (hr0 : r ≠ 0) (hm : zCm c = 0 ∨ zhq (t 211) (t 190 45).toNat = false) (hkd : zkd c r) (h64 : t 190 48 = 64) : zl (zu_call (zt_T n) 202 [(24, 47)] m) (fun v _ => zl (zu_call (zt_T n) 117 [(40, 190)] t) (fun w t' => v = 2 ∧ w = 0 ∧ zFT t t' 2)) := by
  obtain ⟨⟨a1, a2, a3, a4⟩, ⟨b1, b2, b3⟩, ⟨c1, c2⟩, d, -, ⟨k1, k2, k3, k4⟩, -⟩ := hF
  have hf : zCm c = 0 ∨ m 49 (m 47 4) = 0 := by
    rcases hm with q | q
    · exact Or.inl q
    · right; rw [b1, c1, q]; rfl
  refine zl_mono (zz_202_full n hk hoc hc1 hf (by rw [k1, h64]; decide)) (fun v _ hv => ?_)
  refine zl_mono (zz_117_op n (Q := fun w t' => w = 0 ∧ zFT t t' 2) hk' hb hor hr0 ?_) (fun w t' h => ⟨hv, h⟩)
  have h2 : zl (zu_call (zt_T n) 112 [(40, 190), (0, if zrk r = 4 then 5 else zrk r)] t) _ := show zl (zu_ex (zt_T n) 112 0 [(40, 190), (0, if zrk r = 4 then 5 else zrk r), (2, 0), (2, 0), (2, 0)] [] t) _ from zl_eq (z112_a n (if zrk r = 4 then 5 else zrk r) t) (zz_112 n (b := if zrk r = 4 then 5 else zrk r) 72 t a2 a3 (zW8 a3).2.1)
  refine zl_mono h2 (fun _ s hs => ?_)
  obtain ⟨g1, g2, g3, g4, g5⟩ := hs
  have f211 : ∀ i, s 211 i = t 211 i := fun i => zfr_ap g1 zq_211 rfl
  have f48 : s 190 48 = 64 := (zfr_ap g1 zq_190 rfl).trans h64
  have s72 := Int.le_trans g3 a3
  refine ⟨g2, (zW8 s72).2.1, fun q => ?_, fun _ => ?_⟩
  · exfalso
    obtain ⟨q1, q2, q3⟩ := q
    rw [f211] at q3
    rw [if_pos q1] at g4 g5
    have hx := (zhq_bind d g2 g3 g4 g5).mpr ⟨q2, q3⟩
    rcases hm with q | q
    · rcases hkd with ⟨h1, -⟩ | ⟨-, -, -, h4⟩ | ⟨-, -, h3⟩
      · rw [h1] at q; exact absurd q (by decide)
      · rw [q1] at h4; exact absurd h4 (by decide)
      · rw [q1] at h3; exact absurd h3 (by decide)
    · rw [hx] at q; cases q
  · refine zl_mono (zz_117_217 n hB g1 ⟨by rw [f48]; decide, by rw [f48]; decide⟩ ⟨g2, Int.lt_of_le_of_lt s72 (by decide)⟩) (fun w t' h => ?_)
    rcases h with ⟨-, h⟩ | ⟨h, -⟩
    · exact h
    · rw [f48] at h; exact absurd h (by decide)
theorem zbeh_push (n : Nat) {m t : zu_m} {c r : Int} (hF : zFM m t) (hX : zR_BX m) (hB : zTB t) (hk : ¬ (m 45 4 = 4 ∧ m 45 5 = 2 ∧ 0 < m 47 4)) (hk' : ¬ (t 190 8 = 4 ∧ t 190 9 = 41 ∧ 0 < t 190 47)) (hb : t 190 8 = 5 → 0 ≤ t 190 9 ∧ t 190 9 ≤ 5) (hoc : zOp (m 45 4) (m 45 5) = c) (hor : zRk (t 190 8) (t 190 9) = r) (hc1 : c ≠ -1) (hz : zoq c r) (hr0 : r ≠ 0) (hm : zCm c = 0 ∨ zhq (t 211) (t 190 45).toNat = false) (hkd : zkd c r) (h64 : t 190 48 < 64) : zl (zu_call (zt_T n) 202 [(24, 47)] m) (fun v m' => zl (zu_call (zt_T n) 117 [(40, 190)] t) (fun w t' => v = 0 ∧ w = 1 ∧ zFM m' t' ∧ zNX t t' ∧ t' 190 5 = t 190 5)) := by
  have hF0 := hF
  obtain ⟨⟨a1, a2, a3, a4⟩, ⟨b1, b2, b3⟩, ⟨c1, c2⟩, d, -, ⟨k1, k2, k3, k4⟩, -⟩ := hF
  have hf : zCm c = 0 ∨ m 49 (m 47 4) = 0 := by
    rcases hm with q | q
    · exact Or.inl q
    · right; rw [b1, c1, q]; rfl
  refine zl_mono (zz_202_op n (P := fun m' => zl (zu_call (zt_T n) 117 [(40, 190)] t) (fun w t' => w = 1 ∧ zFM m' t' ∧ zNX t t' ∧ t' 190 5 = t 190 5)) hk hoc hc1 hf (by rw [k1]; exact k2) (by rw [k1]; exact h64) rfl rfl ?_) (fun v m' hs => zl_mono hs.2 (fun w t' h => ⟨hs.1, h⟩))
  generalize hm2 : zu_up (zu_up (zu_up (zu_up m 10 5 (m 10 5 + 1)) 49 (m 47 4) (zFg (zCm c) (zJn c) (m 49 (m 47 4)))) 47 6 1) 47 7 (zJn c) = m2
  have y2 : ∀ i, m2 2 i = m 2 i := fun i => by rw [← hm2]; simp [zu_up_app]
  have y48 : ∀ i, m2 48 i = m 48 i := fun i => by rw [← hm2]; simp [zu_up_app]
  have y3 : m2 47 3 = m 47 3 := by rw [← hm2]; simp [zu_up_app]
  have hX2 : zR_BX m2 := fun i i0 i1 => (y2 i).trans (hX i i0 i1)
  have hW2 : zWM m2 t := ⟨y3.trans a1, a2, a3, fun i i0 i1 => by rw [y48]; exact a4 i i0 i1⟩
  have eb : m2 2 c = zrk r := (y2 c).trans (zBX_op hX hz)
  rw [eb]
  have hbb : zrk r = (if zrk r = 4 then 5 else zrk r) ∨ (zrk r = 4 ∧ (if zrk r = 4 then 5 else zrk r) = 5 ∧ zhq (t 211) (t 190 45).toNat = false) := by
    by_cases h4 : zrk r = 4
    · refine Or.inr ⟨h4, if_pos h4, ?_⟩
      rcases hm with q | q
      · rcases hkd with ⟨h1, -⟩ | ⟨-, -, -, q4⟩ | ⟨-, -, q3⟩
        · rw [h1] at q; exact absurd q (by decide)
        · rw [h4] at q4; exact absurd q4 (by decide)
        · rw [h4] at q3; exact absurd q3 (by decide)
      · exact q
    · exact Or.inl (if_neg h4).symm
  have h206 : zl (zu_call (zt_T n) 206 [(24, 47), (0, zrk r)] m2) _ := show zl (zu_ex (zt_T n) 206 0 [(24, 47), (0, zrk r)] [] m2) _ from zz_206 n (b := zrk r) 72 m2 (by rw [y3, a1]; exact a2) (by rw [y3, a1]; exact a3) (by rw [y3, a1]; exact a3)
  refine zl_mono (zl_both h206 (zz_lay2 n hX2 hW2 rfl d hbb)) (fun _ m3 hs => ?_)
  obtain ⟨⟨-, g2, g3, -⟩, hs⟩ := hs
  rw [y3, a1] at g3
  refine ⟨g2, (zW10 g3 k4 h64 b2).1, ?_⟩
  refine zz_117_op n hk' hb hor hr0 (zl_mono hs (fun _ s h => ?_))
  obtain ⟨f1, f2, q1, q2, q3, q4, q5⟩ := h
  have f211 : ∀ i, s 211 i = t 211 i := fun i => zfr_ap f2 zq_211 rfl
  have f48 : s 190 48 = t 190 48 := zfr_ap f2 zq_190 rfl
  have f47 : s 190 47 = t 190 47 := zfr_ap f2 zq_190 rfl
  have w10 := zW10 q3 k4 h64 b2
  refine ⟨q2, w10.2.2.2, fun q => ?_, fun _ => ?_⟩
  · exfalso
    obtain ⟨p1, p2, p3⟩ := q
    rw [f211] at p3
    rw [p1, p3] at q4
    rcases q4 with q4 | q4
    · rw [q4] at p2; exact absurd p2 (by decide)
    · exact absurd q4 (by decide)
  · refine zl_mono (zz_117_217 n hB f2 ⟨by rw [f48]; exact k2, by rw [f48]; exact k3⟩ ⟨q2, w10.2.2.1⟩) (fun w t' h => ?_)
    rcases h with ⟨h, -⟩ | ⟨-, w1, x1, x2, x3, x4, x5, x6, x7, x9, x8⟩
    · rw [f48] at h; rw [h] at h64; exact absurd h64 (by decide)
    · rw [f48] at x1
      rw [f47] at x7
      exact ⟨w1, zbeh_fm hF0 rfl rfl hz hr0 hkd rfl h64 hm2 f1 q1 q2 q3 q4 q5 x1 x2 (fun i hi => (x3 i hi).trans (f211 i)) x4 x5 x6 x7, x8, x9.trans (zfr_ap f2 zq_190 rfl)⟩
/-- behind a part, side by side -/
theorem zz_behind (n : Nat) {m t : zu_m} (hF : zFM m t) (hX : zR_BX m) (hK : zKV (m 45 4) (m 45 5) (t 190 8) (t 190 9)) (hw : t 190 49 = 0) (hB : zTB t) : zl (zu_call (zt_T n) 202 [(24, 47)] m) (fun v m' => zl (zu_call (zt_T n) 117 [(40, 190)] t) (fun w t' => (v ≠ 0 ∧ w = 0 ∧ zFT t t' v) ∨ (v = 0 ∧ w = 1 ∧ zFM m' t' ∧ zNX t t' ∧ t' 190 5 = t 190 5))) := by
  have b1 := hF.2.1.1
  by_cases hcl : t 190 8 = 4 ∧ t 190 9 = 41 ∧ 0 < t 190 47
  · have hk : m 45 4 = 4 ∧ m 45 5 = 2 := by
      obtain ⟨p1, p2, -⟩ := hcl
      rw [p1, p2] at hK
      exact zKV_cl hK
    exact zl_mono (zbeh_close n hF hX hk ⟨hcl.1, hcl.2.1⟩ hcl.2.2 hw hB) (fun v m' h => zl_mono h (fun w t' h => Or.inr h))
  have hk : ¬ (m 45 4 = 4 ∧ m 45 5 = 2 ∧ 0 < m 47 4) := by
    rintro ⟨p1, p2, p3⟩
    rw [b1] at p3
    rw [p1, p2] at hK
    obtain ⟨r1, r2⟩ := zKV_cr hK
    exact hcl ⟨r1, r2, p3⟩
  have hb : t 190 8 = 5 → 0 ≤ t 190 9 ∧ t 190 9 ≤ 5 := fun q => by
    rw [q] at hK
    exact zKV_5 hK
  rcases zOq hK with ⟨e1, e2⟩ | ⟨hz, h3, h15⟩
  · refine zl_mono (zz_202_no n hk e1) (fun v _ hv => zl_mono (zz_117_no n hcl hb e2) (fun w t' h => Or.inl ⟨by rw [hv]; decide, h.1, by rw [hv]; exact h.2⟩))
  · obtain ⟨hr0, hkd⟩ := zrk_op hz h3 h15
    have hc1 : zOp (m 45 4) (m 45 5) ≠ -1 := fun q => by rw [q] at h3; exact absurd h3 (by decide)
    by_cases hA : zCm (zOp (m 45 4) (m 45 5)) ≠ 0 ∧ zhq (t 211) (t 190 45).toNat = true
    · have hr4 : zrk (zRk (t 190 8) (t 190 9)) = 4 := by
        rcases hkd with ⟨-, h4, -⟩ | ⟨q, -⟩ | ⟨q, -⟩
        · exact h4
        · exact absurd q hA.1
        · exact absurd q hA.1
      exact zl_mono (zbeh_cmp n hF hk hcl hb rfl rfl hc1 hr0 hA.1 hr4 hA.2) (fun v _ h => zl_mono h (fun w t' h => Or.inl ⟨by rw [h.1]; decide, h.2.1, by rw [h.1]; exact h.2.2⟩))
    have hm : zCm (zOp (m 45 4) (m 45 5)) = 0 ∨ zhq (t 211) (t 190 45).toNat = false := by
      by_cases q : zCm (zOp (m 45 4) (m 45 5)) = 0
      · exact Or.inl q
      · right
        cases q2 : zhq (t 211) (t 190 45).toNat with
        | false => rfl
        | true => exact absurd ⟨q, q2⟩ hA
    by_cases h64 : t 190 48 = 64
    · exact zl_mono (zbeh_full n hF hB hk hcl hb rfl rfl hc1 hr0 hm hkd h64) (fun v _ h => zl_mono h (fun w t' h => Or.inl ⟨by rw [h.1]; decide, h.2.1, by rw [h.1]; exact h.2.2⟩))
    · have h64' : t 190 48 < 64 := zW14 hF.2.2.2.2.2.1.2.2.1 h64
      exact zl_mono (zbeh_push n hF hX hB hk hcl hb rfl rfl hc1 hz hr0 hm hkd h64') (fun v m' h => zl_mono h (fun w t' h => Or.inr h))

/-! parts and what stands behind them: the same knots -/
theorem zKA_fr {f : Int} {W V : List (Nat × Nat)} {m m' t t' : zu_m} (h : zKA f m t) (hf : zfr W m m') (hft : zfr V t t') (hd : zdis W [(5, 7), (33, 0), (34, 0)] = true) (hd' : zdis V [(28, 22), (28, 47), (117, 0), (118, 0), (119, 0), (121, 0)] = true) : zKA f m' t' := by
  have e := zdis_fr hf hd
  have g := zdis_fr hft hd'
  exact zKA_mv h (e 10 6 (by rw [zq_10]; rfl)) (fun i => e 11 i (by rw [zq_11]; rfl)) (fun i => e 12 i (by rw [zq_12]; rfl)) (g 190 21 (by rw [zq_190]; rfl)) (g 190 46 (by rw [zq_190]; rfl)) (fun i => g 208 i (by rw [zq_208]; rfl)) (fun i => g 209 i (by rw [zq_209]; rfl)) (fun i => g 210 i (by rw [zq_210]; rfl)) (fun i => g 212 i (by rw [zq_212]; rfl))
def zKQ (f : Int) (m t : zu_m) : Prop := zKA f m t ∧ t 190 46 ≤ 96
theorem zKQ_fr {f : Int} {W V : List (Nat × Nat)} {m m' t t' : zu_m} (h : zKQ f m t) (hf : zfr W m m') (hft : zfr V t t') (hd : zdis W [(5, 7), (33, 0), (34, 0)] = true) (hd' : zdis V [(28, 22), (28, 47), (117, 0), (118, 0), (119, 0), (121, 0)] = true) : zKQ f m' t' := by
  refine ⟨zKA_fr h.1 hf hft hd hd', ?_⟩
  rw [zdis_fr hft hd' 190 46 (by rw [zq_190]; rfl)]
  exact h.2
theorem zz_partK (n : Nat) {f : Int} {m t : zu_m} (hF : zFM m t) (hK : zKV (m 45 4) (m 45 5) (t 190 8) (t 190 9)) (hw : t 190 49 ≠ 0) (hB : zTB t) (h9 : -2147483648 ≤ t 190 9 ∧ t 190 9 ≤ 2147483647) (hA : zKQ f m t) : zl (zu_call (zt_T n) 199 [(24, 47)] m) (fun v m' => zl (zu_call (zt_T n) 116 [(40, 190)] t) (fun w t' => v = 0 → w = 1 → zKQ f m' t')) := by
  obtain ⟨⟨a1, a2, a3, a4⟩, ⟨b1, b2, b3⟩, -, -, ⟨e1, e2⟩, ⟨f1, f2, f3, f4⟩, -⟩ := hF
  have b0 : 0 ≤ t 190 47 := by rw [b3]; exact zdpq_nn _ _
  by_cases hp : zPl (m 45 4) (m 45 5)
  · have hp' : (t 190 8 = 3 ∧ t 190 9 ≤ 9999) ∨ (t 190 8 = 1 ∧ 26 ≤ t 190 9) := by
      unfold zKV at hK
      unfold zPl at hp
      omega
    exact zz_leafK n hA.1 hK hp hp' (by rw [f1]; exact f2) hB h9 ⟨f2, f3⟩
  by_cases ho : m 45 4 = 4 ∧ m 45 5 = 1
  · have hk : t 190 8 = 4 ∧ t 190 9 = 40 := by
      unfold zKV at hK
      omega
    refine zl_mono (zz_199_open n ho (by omega) ⟨by omega, fun _ => by omega⟩) (fun v m' hv => zl_mono (zz_116_open n hB hk ⟨b0, b2⟩ ⟨a2, by omega⟩) (fun w t' hw' h0 h1 => ?_))
    rcases hv with ⟨-, v2⟩ | ⟨-, -, -, -, -, -, -, -, -, v10⟩
    · rw [v2] at h0; exact absurd h0 (by decide)
    · rcases hw' with ⟨-, w2, -⟩ | ⟨-, -, -, -, -, -, -, w8, -⟩
      · rw [w2] at h1; exact absurd h1 (by decide)
      · exact zKQ_fr hA v10 w8 rfl rfl
  by_cases hn : m 45 4 = 1 ∧ m 45 5 = 25 ∧ m 47 7 ≠ 0
  · have hk : t 190 8 = 1 ∧ t 190 9 = 25 := by
      unfold zKV at hK
      omega
    have hm : t 190 50 ≠ 0 := by rw [← e2]; exact hn.2.2
    refine zl_mono (zz_199_not n ⟨hn.1, hn.2.1⟩ hn.2.2 (by omega) ⟨by omega, fun _ => by omega⟩) (fun v m' hv => zl_mono (zz_116_not n hB hk hm ⟨f2, f3⟩ ⟨a2, by omega⟩) (fun w t' hw' h0 h1 => ?_))
    rcases hv with ⟨-, v2⟩ | ⟨-, -, -, -, -, -, v7⟩
    · rw [v2] at h0; exact absurd h0 (by decide)
    · rcases hw' with ⟨-, w2, -⟩ | ⟨-, -, -, -, -, -, w7, -⟩
      · rw [w2] at h1; exact absurd h1 (by decide)
      · exact zKQ_fr hA v7 w7 rfl rfl
  by_cases h3 : m 45 4 = 3
  · have h10 : 9999 < m 45 5 := by unfold zPl at hp; omega
    exact zl_mono (zz_199_over n ⟨h3, h10⟩) (fun v m' hv => fun w t' _ h0 => by rw [hv] at h0; exact absurd h0 (by decide))
  · exact zl_mono (zz_199_else n h3 (fun q => hp (Or.inr q)) ho hn) (fun v m' hv => fun w t' _ h0 => by rw [hv] at h0; exact absurd h0 (by decide))
theorem zz_layKc (n : Nat) {b b' f : Int} (hb1 : 1 ≤ b) {m t : zu_m} (hX : zR_BX m) (hW : zWM m t) (hord : zord (t 211) (t 190 45).toNat) (hbb : b = b' ∨ (b = 4 ∧ b' = 5 ∧ zhq (t 211) (t 190 45).toNat = false)) (hA : zKQ f m t) : zl (zu_call (zt_T n) 206 [(24, 47), (0, b)] m) (fun _ m' => zl (zu_call (zt_T n) 112 [(40, 190), (0, b')] t) (fun _ t' => zKQ f m' t')) := by
  obtain ⟨e, w0, w72, ho⟩ := hW
  have h := zz_layK n (b := b) (b' := b') (f := f) hb1 72 m t (t 190 45) hX e rfl w0 w72 ho hord hbb hA.1 hA.2 w72
  exact zl_mono (show zl (zu_call (zt_T n) 206 [(24, 47), (0, b)] m) _ from h) (fun _ m' hs => show zl (zu_ex (zt_T n) 112 0 [(40, 190), (0, b'), (2, 0), (2, 0), (2, 0)] [] t) _ from zl_eq (z112_a n b' t) hs)
theorem zz_117_217K (n : Nat) {t s : zu_m} {k : Int} (hB : zTB t) (hf : zfr [(28, 22), (28, 46), (28, 47), (117, 0), (118, 0), (119, 0), (121, 0)] t s) (hc : 0 ≤ s 190 48 ∧ s 190 48 ≤ 64) (hw : 0 ≤ s 190 45 ∧ s 190 45 < 96) : zl (zu_ex (zt_T n) 117 217 [(40, 190), (0, k)] [] s) (fun w t' => w = 1 → zfr [(28, 49), (120, 0), (28, 46), (28, 50), (28, 51), (28, 8), (28, 9), (28, 10), (28, 11)] s t') := by
  refine zl_eq (zu_rega_at (zt_T n) (zm_117 n) (zdp_117 n) _ _ _ _ _ _ (zr_117_217 n _ _ 190 k s)) ?_
  by_cases h64 : s 190 48 = 64
  · rw [zc_113b n h64, zu_bds, if_neg (show ¬ (0 : Int) ≠ 0 by decide), zu_b0]
    exact zl_some (fun h => absurd h (by decide))
  rw [zc_113a n hc.1 (by omega), zu_bds, if_pos (show (1 : Int) ≠ 0 by decide)]
  generalize hm1 : zu_up s 190 48 (s 190 48 + 1) = s1
  have e45 : s1 190 45 = s 190 45 := zs_ne hm1 (Or.inr (by decide))
  rw [zc_114 n (by omega) (by omega), zu_bds, zu_b1, e45]
  generalize hm2 : zu_up s1 211 (s 190 45) k = s2
  generalize hm3 : zu_up s2 190 45 (s 190 45 + 1) = s3
  generalize hm4 : zu_up s3 190 49 1 = s4
  rw [zc_109, zu_bds]
  have hs4 : zfr [(28, 49), (120, 0), (28, 46), (28, 50)] s s4 := zfr_up hm4 (zfr_up hm3 (zfr_up hm2 (zfr_up hm1 (zfr_rf _ s) zq_190 rfl) zq_211 rfl) zq_190 rfl) zq_190 rfl
  have fin : ∀ b : Int, zl (zu_bd (zu_call (zt_T n) 89 [(40, 190)] (zu_up s4 190 50 b)) (fun _ s254 => (zu_b 1 (some (1, s254))))) (fun w t' => w = 1 → zfr [(28, 49), (120, 0), (28, 46), (28, 50), (28, 51), (28, 8), (28, 9), (28, 10), (28, 11)] s t') := fun b => by
    generalize hm5 : zu_up s4 190 50 b = s5
    have hs5 : zfr [(28, 49), (120, 0), (28, 46), (28, 50), (28, 51)] s s5 := zfr_up hm5 (zfr_tr (zfr_rf _ s) hs4 rfl) zq_190 rfl
    have hf5 : zfr [(28, 22), (28, 46), (28, 47), (117, 0), (118, 0), (119, 0), (121, 0), (28, 49), (120, 0), (28, 50), (28, 51)] t s5 := zfr_tr (zfr_tr (zfr_rf _ t) hf rfl) hs5 rfl
    refine zl_bd (zl_mono (zz_89 n hB hf5 rfl) (fun _ t' hs => ?_))
    exact zl_b (zl_some (fun _ => zfr_tr (zfr_tr (zfr_rf _ s) hs5 rfl) hs.1 rfl))
  refine zl_ite (fun q => zl_b (fin 0)) (fun q => zl_b (fin 1))
theorem zbehK_close (n : Nat) {f : Int} {m t : zu_m} (hF : zFM m t) (hX : zR_BX m) (hk : m 45 4 = 4 ∧ m 45 5 = 2) (hk' : t 190 8 = 4 ∧ t 190 9 = 41) (hp : 0 < t 190 47) (hB : zTB t) (hA : zKQ f m t) : zl (zu_call (zt_T n) 202 [(24, 47)] m) (fun v m' => zl (zu_call (zt_T n) 117 [(40, 190)] t) (fun w t' => v = 0 → w = 1 → zKQ f m' t')) := by
  have hWM := hF.1
  have b1 := hF.2.1.1
  refine zl_mono (zz_202_close n hk (by rw [b1]; exact hp) (P := fun m' => zl (zu_call (zt_T n) 117 [(40, 190)] t) (fun w t' => w = 1 → zKQ f m' t')) ?_) (fun v m' hs => zl_mono hs.2 (fun w t' h2 _ => h2))
  refine zl_mono (zl_both (zz_lay n hX hWM (b := 1)) (zz_layKc n (b' := 1) (Int.le_refl 1) hX hWM hF.2.2.2.1 (Or.inl rfl) hA)) (fun _ m1 hs => ?_)
  refine zl_mono (zz_117_close n hB hk' hp (P := fun s => zKQ f m1 s) (zl_mono (zl_both hs.1 hs.2) (fun _ s h => ⟨h.1.2.1, h.2⟩))) (fun w t' h2 _ => ?_)
  obtain ⟨-, s, hs2, f2, g1, g2⟩ := h2
  have hx : zfr [(28, 46), (28, 48), (28, 8), (28, 9), (28, 10), (28, 11)] s t' := zfr_tr (zfr_up rfl (zfr_up rfl (zfr_rf _ s) zq_190 rfl) zq_190 rfl) g1 rfl
  exact zKQ_fr hs2 (zfr_up (W := [(10, 4), (10, 5)]) rfl (zfr_up rfl (zfr_rf _ m1) zq_47 rfl) zq_47 rfl) hx rfl rfl
theorem zbehK_push (n : Nat) {f : Int} {m t : zu_m} {c r : Int} (hF : zFM m t) (hX : zR_BX m) (hB : zTB t) (hk : ¬ (m 45 4 = 4 ∧ m 45 5 = 2 ∧ 0 < m 47 4)) (hk' : ¬ (t 190 8 = 4 ∧ t 190 9 = 41 ∧ 0 < t 190 47)) (hb : t 190 8 = 5 → 0 ≤ t 190 9 ∧ t 190 9 ≤ 5) (hoc : zOp (m 45 4) (m 45 5) = c) (hor : zRk (t 190 8) (t 190 9) = r) (hc1 : c ≠ -1) (hz : zoq c r) (hr0 : r ≠ 0) (hm : zCm c = 0 ∨ zhq (t 211) (t 190 45).toNat = false) (hkd : zkd c r) (h64 : t 190 48 < 64) (hA : zKQ f m t) : zl (zu_call (zt_T n) 202 [(24, 47)] m) (fun v m' => zl (zu_call (zt_T n) 117 [(40, 190)] t) (fun w t' => v = 0 → w = 1 → zKQ f m' t')) := by
  obtain ⟨⟨a1, a2, a3, a4⟩, ⟨b1, b2, b3⟩, ⟨c1, c2⟩, d, -, ⟨k1, k2, k3, k4⟩, -⟩ := hF
  have hf : zCm c = 0 ∨ m 49 (m 47 4) = 0 := by
    rcases hm with q | q
    · exact Or.inl q
    · right; rw [b1, c1, q]; rfl
  refine zl_mono (zz_202_op n (P := fun m' => zl (zu_call (zt_T n) 117 [(40, 190)] t) (fun w t' => w = 1 → zKQ f m' t')) hk hoc hc1 hf (by rw [k1]; exact k2) (by rw [k1]; exact h64) rfl rfl ?_) (fun v m' hs => zl_mono hs.2 (fun w t' h _ => h))
  generalize hm2 : zu_up (zu_up (zu_up (zu_up m 10 5 (m 10 5 + 1)) 49 (m 47 4) (zFg (zCm c) (zJn c) (m 49 (m 47 4)))) 47 6 1) 47 7 (zJn c) = m2
  have y2 : ∀ i, m2 2 i = m 2 i := fun i => by rw [← hm2]; simp [zu_up_app]
  have y48 : ∀ i, m2 48 i = m 48 i := fun i => by rw [← hm2]; simp [zu_up_app]
  have y3 : m2 47 3 = m 47 3 := by rw [← hm2]; simp [zu_up_app]
  have hX2 : zR_BX m2 := fun i i0 i1 => (y2 i).trans (hX i i0 i1)
  have hW2 : zWM m2 t := ⟨y3.trans a1, a2, a3, fun i i0 i1 => by rw [y48]; exact a4 i i0 i1⟩
  have hA2 : zKQ f m2 t := ⟨zKA_mv hA.1 (by rw [← hm2]; simp [zu_up_app]) (fun i => by rw [← hm2]; simp [zu_up_app]) (fun i => by rw [← hm2]; simp [zu_up_app]) rfl rfl (fun _ => rfl) (fun _ => rfl) (fun _ => rfl) (fun _ => rfl), hA.2⟩
  have eb : m2 2 c = zrk r := (y2 c).trans (zBX_op hX hz)
  rw [eb]
  have hbb : zrk r = (if zrk r = 4 then 5 else zrk r) ∨ (zrk r = 4 ∧ (if zrk r = 4 then 5 else zrk r) = 5 ∧ zhq (t 211) (t 190 45).toNat = false) := by
    by_cases h4 : zrk r = 4
    · refine Or.inr ⟨h4, if_pos h4, ?_⟩
      rcases hm with q | q
      · rcases hkd with ⟨h1, -⟩ | ⟨-, -, -, q4⟩ | ⟨-, -, q3⟩
        · rw [h1] at q; exact absurd q (by decide)
        · rw [h4] at q4; exact absurd q4 (by decide)
        · rw [h4] at q3; exact absurd q3 (by decide)
      · exact q
    · exact Or.inl (if_neg h4).symm
  have hb1 : 1 ≤ zrk r := by
    rcases hkd with ⟨-, q, -⟩ | ⟨-, -, q, -⟩ | ⟨-, -, q⟩
    · rw [q]; decide
    · exact q
    · exact Int.le_trans (by decide) q
  have h206 : zl (zu_call (zt_T n) 206 [(24, 47), (0, zrk r)] m2) _ := show zl (zu_ex (zt_T n) 206 0 [(24, 47), (0, zrk r)] [] m2) _ from zz_206 n (b := zrk r) 72 m2 (by rw [y3, a1]; exact a2) (by rw [y3, a1]; exact a3) (by rw [y3, a1]; exact a3)
  refine zl_mono (zl_both h206 (zl_both (zz_lay2 n hX2 hW2 rfl d hbb) (zz_layKc n hb1 hX2 hW2 d hbb hA2))) (fun _ m3 hs => ?_)
  obtain ⟨⟨-, g2, g3, -⟩, hs, hsK⟩ := hs
  rw [y3, a1] at g3
  refine ⟨g2, (zW10 g3 k4 h64 b2).1, ?_⟩
  refine zz_117_op n hk' hb hor hr0 (zl_mono (zl_both hs hsK) (fun _ s h => ?_))
  obtain ⟨⟨f1, f2, q1, q2, q3, q4, q5⟩, hK⟩ := h
  have f211 : ∀ i, s 211 i = t 211 i := fun i => zfr_ap f2 zq_211 rfl
  have f48 : s 190 48 = t 190 48 := zfr_ap f2 zq_190 rfl
  have w10 := zW10 q3 k4 h64 b2
  refine ⟨q2, w10.2.2.2, fun q => ?_, fun _ => ?_⟩
  · intro h; exact absurd h (by decide)
  · refine zl_mono (zz_117_217K n hB f2 ⟨by rw [f48]; exact k2, by rw [f48]; exact k3⟩ ⟨q2, w10.2.2.1⟩) (fun w t' h h1 => ?_)
    exact zKQ_fr hK (zfr_up (W := [(47, 0), (10, 4)]) rfl (zfr_up rfl (zfr_rf _ m3) zq_48 rfl) zq_47 rfl) (h h1) rfl rfl
theorem zz_behindK (n : Nat) {f : Int} {m t : zu_m} (hF : zFM m t) (hX : zR_BX m) (hK : zKV (m 45 4) (m 45 5) (t 190 8) (t 190 9)) (hB : zTB t) (hA : zKQ f m t) : zl (zu_call (zt_T n) 202 [(24, 47)] m) (fun v m' => zl (zu_call (zt_T n) 117 [(40, 190)] t) (fun w t' => v = 0 → w = 1 → zKQ f m' t')) := by
  have b1 := hF.2.1.1
  by_cases hcl : t 190 8 = 4 ∧ t 190 9 = 41 ∧ 0 < t 190 47
  · have hk : m 45 4 = 4 ∧ m 45 5 = 2 := by
      obtain ⟨p1, p2, -⟩ := hcl
      rw [p1, p2] at hK
      exact zKV_cl hK
    exact zbehK_close n hF hX hk ⟨hcl.1, hcl.2.1⟩ hcl.2.2 hB hA
  have hk : ¬ (m 45 4 = 4 ∧ m 45 5 = 2 ∧ 0 < m 47 4) := by
    rintro ⟨p1, p2, p3⟩
    rw [b1] at p3
    rw [p1, p2] at hK
    obtain ⟨r1, r2⟩ := zKV_cr hK
    exact hcl ⟨r1, r2, p3⟩
  have hb : t 190 8 = 5 → 0 ≤ t 190 9 ∧ t 190 9 ≤ 5 := fun q => by
    rw [q] at hK
    exact zKV_5 hK
  rcases zOq hK with ⟨e1, e2⟩ | ⟨hz, h3, h15⟩
  · exact zl_mono (zz_202_no n hk e1) (fun v _ hv => fun w t' _ h0 => by rw [hv] at h0; exact absurd h0 (by decide))
  · obtain ⟨hr0, hkd⟩ := zrk_op hz h3 h15
    have hc1 : zOp (m 45 4) (m 45 5) ≠ -1 := fun q => by rw [q] at h3; exact absurd h3 (by decide)
    by_cases hAA : zCm (zOp (m 45 4) (m 45 5)) ≠ 0 ∧ zhq (t 211) (t 190 45).toNat = true
    · have hfl : m 49 (m 47 4) ≠ 0 := by rw [b1, hF.2.2.1.1, hAA.2]; decide
      exact zl_mono (zz_202_cmp n hk rfl hc1 hAA.1 hfl) (fun v _ hv => fun w t' _ h0 => by rw [hv] at h0; exact absurd h0 (by decide))
    have hm : zCm (zOp (m 45 4) (m 45 5)) = 0 ∨ zhq (t 211) (t 190 45).toNat = false := by
      by_cases q : zCm (zOp (m 45 4) (m 45 5)) = 0
      · exact Or.inl q
      · right
        cases q2 : zhq (t 211) (t 190 45).toNat with
        | false => rfl
        | true => exact absurd ⟨q, q2⟩ hAA
    by_cases h64 : t 190 48 = 64
    · have hfl : zCm (zOp (m 45 4) (m 45 5)) = 0 ∨ m 49 (m 47 4) = 0 := by
        rcases hm with q | q
        · exact Or.inl q
        · right; rw [b1, hF.2.2.1.1, q]; rfl
      exact zl_mono (zz_202_full n hk rfl hc1 hfl (by rw [hF.2.2.2.2.2.1.1, h64]; decide)) (fun v _ hv => fun w t' _ h0 => by rw [hv] at h0; exact absurd h0 (by decide))
    · have h64' : t 190 48 < 64 := zW14 hF.2.2.2.2.2.1.2.2.1 h64
      exact zbehK_push n hF hX hB hk hcl hb rfl rfl hc1 hz hr0 hm hkd h64' hA

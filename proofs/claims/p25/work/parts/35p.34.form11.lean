/-! behind a part, side by side -/
theorem zl_both {x : Option zu_R} {P Q : Int → zu_m → Prop} (h1 : zl x P) (h2 : zl x Q) : zl x (fun v m => P v m ∧ Q v m) := fun v m e => ⟨h1 v m e, h2 v m e⟩
theorem zoq_all {c r : Int} (h : zoq c r) : (c = 1 ∧ r = 0) ∨ (c = 15 ∧ r = 2) ∨ (c = 13 ∧ r = 4) ∨ (c = 14 ∧ r = 3) ∨ (c = 3 ∧ r = 11) ∨ (c = 4 ∧ r = 12) ∨ (c = 5 ∧ r = 13) ∨ (c = 6 ∧ r = 14) ∨ (c = 7 ∧ r = 5) ∨ (c = 8 ∧ r = 6) ∨ (c = 9 ∧ r = 7) ∨ (c = 10 ∧ r = 8) ∨ (c = 11 ∧ r = 9) ∨ (c = 12 ∧ r = 10) := by
  rcases h with h | h | h | h | h | h | h | h | h
  · exact Or.inl (h)
  · exact Or.inr (Or.inl (h))
  · exact Or.inr (Or.inr (Or.inl (h)))
  · exact Or.inr (Or.inr (Or.inr (Or.inl (h))))
  · exact Or.inr (Or.inr (Or.inr (Or.inr (Or.inl (h)))))
  · exact Or.inr (Or.inr (Or.inr (Or.inr (Or.inr (Or.inl (h))))))
  · exact Or.inr (Or.inr (Or.inr (Or.inr (Or.inr (Or.inr (Or.inl (h)))))))
  · exact Or.inr (Or.inr (Or.inr (Or.inr (Or.inr (Or.inr (Or.inr (Or.inl (h))))))))
  · obtain ⟨h1, h2, rfl⟩ := h
    have hc : c = 7 ∨ c = 8 ∨ c = 9 ∨ c = 10 ∨ c = 11 ∨ c = 12 := by omega
    rcases hc with rfl | rfl | rfl | rfl | rfl | rfl
    · exact Or.inr (Or.inr (Or.inr (Or.inr (Or.inr (Or.inr (Or.inr (Or.inr (Or.inl ⟨rfl, rfl⟩))))))))
    · exact Or.inr (Or.inr (Or.inr (Or.inr (Or.inr (Or.inr (Or.inr (Or.inr (Or.inr (Or.inl ⟨rfl, rfl⟩)))))))))
    · exact Or.inr (Or.inr (Or.inr (Or.inr (Or.inr (Or.inr (Or.inr (Or.inr (Or.inr (Or.inr (Or.inl ⟨rfl, rfl⟩))))))))))
    · exact Or.inr (Or.inr (Or.inr (Or.inr (Or.inr (Or.inr (Or.inr (Or.inr (Or.inr (Or.inr (Or.inr (Or.inl ⟨rfl, rfl⟩)))))))))))
    · exact Or.inr (Or.inr (Or.inr (Or.inr (Or.inr (Or.inr (Or.inr (Or.inr (Or.inr (Or.inr (Or.inr (Or.inr (Or.inl ⟨rfl, rfl⟩))))))))))))
    · exact Or.inr (Or.inr (Or.inr (Or.inr (Or.inr (Or.inr (Or.inr (Or.inr (Or.inr (Or.inr (Or.inr (Or.inr (Or.inr (⟨rfl, rfl⟩)))))))))))))
theorem zrk_z {c r : Int} (h : zoq c r) (h1 : zrk r < 1) : r = 0 := by
  rcases zoq_all h with ⟨-, rfl⟩ | ⟨-, rfl⟩ | ⟨-, rfl⟩ | ⟨-, rfl⟩ | ⟨-, rfl⟩ | ⟨-, rfl⟩ | ⟨-, rfl⟩ | ⟨-, rfl⟩ | ⟨-, rfl⟩ | ⟨-, rfl⟩ | ⟨-, rfl⟩ | ⟨-, rfl⟩ | ⟨-, rfl⟩ | ⟨-, rfl⟩
  · rfl
  all_goals exact absurd h1 (by decide)
def zkd (c r : Int) : Prop := (zCm c = 1 ∧ zrk r = 4 ∧ zJn c = 0) ∨ (zCm c = 0 ∧ zJn c = 1 ∧ 1 ≤ zrk r ∧ zrk r ≤ 2) ∨ (zCm c = 0 ∧ zJn c = 0 ∧ 5 ≤ zrk r)
theorem zrk_op {c r : Int} (h : zoq c r) (h3 : 3 ≤ c) (h15 : c ≠ 15) : r ≠ 0 ∧ zkd c r := by
  unfold zkd
  rcases zoq_all h with ⟨rfl, rfl⟩ | ⟨rfl, rfl⟩ | ⟨rfl, rfl⟩ | ⟨rfl, rfl⟩ | ⟨rfl, rfl⟩ | ⟨rfl, rfl⟩ | ⟨rfl, rfl⟩ | ⟨rfl, rfl⟩ | ⟨rfl, rfl⟩ | ⟨rfl, rfl⟩ | ⟨rfl, rfl⟩ | ⟨rfl, rfl⟩ | ⟨rfl, rfl⟩ | ⟨rfl, rfl⟩
  · exact absurd h3 (by decide)
  · exact absurd rfl h15
  all_goals decide
theorem zOq {k v k' w : Int} (h : zKV k v k' w) : (zOp k v = -1 ∧ zRk k' w = 0) ∨ (zoq (zOp k v) (zRk k' w) ∧ 3 ≤ zOp k v ∧ zOp k v ≠ 15) := by
  unfold zoq zOp zRk
  rcases h with ⟨rfl, rfl⟩ | ⟨rfl, rfl, h3, h4, h5⟩ | ⟨rfl, rfl, h3⟩ | ⟨rfl, rfl, h3, h4⟩ | ⟨rfl, rfl, h3⟩ | ⟨rfl, rfl, h3, h4, h5⟩ | ⟨rfl, h2⟩
  · exact Or.inl ⟨by simp, by simp⟩
  · rcases h5 with ⟨rfl, rfl⟩ | ⟨rfl, rfl⟩ | ⟨q1, q2, rfl⟩
    · right; decide
    · right; decide
    · exact Or.inl ⟨by simp [q1, q2], by simp [q1, q2]⟩
  · exact Or.inl ⟨by simp, by simp⟩
  · exact Or.inl ⟨by simp, by simp⟩
  · rcases h3 with ⟨rfl, rfl⟩ | ⟨rfl, rfl⟩ | ⟨rfl, rfl⟩ | ⟨rfl, rfl⟩ | ⟨rfl, rfl⟩ | ⟨rfl, rfl⟩ | ⟨rfl, rfl⟩
    · left; decide
    · left; decide
    · left; decide
    all_goals (right; decide)
  · right
    rw [if_neg (show ¬ ((4 : Int) = 1 ∧ v = 23) by omega), if_neg (show ¬ ((4 : Int) = 1 ∧ v = 24) by omega), if_pos (show (4 : Int) = 4 ∧ 3 ≤ v by omega), if_neg (show ¬ ((5 : Int) = 1 ∧ w = 23) by omega), if_neg (show ¬ ((5 : Int) = 1 ∧ w = 24) by omega), if_pos rfl]
    exact ⟨Or.inr (Or.inr (Or.inr (Or.inr (Or.inr (Or.inr (Or.inr (Or.inr ⟨h3, h4, by omega⟩))))))), by omega, by omega⟩
  · left
    rcases h2 with rfl | ⟨rfl, rfl⟩
    · exact ⟨by simp, by simp⟩
    · exact ⟨by simp, by simp⟩
theorem zW3 {a b c : Int} (h : a ≤ b + c) : a - 1 ≤ b + (c - 1) := by omega
theorem zbeh_cl {m t m1 s t' : zu_m} {W o W1 : Int} (hF : zFM m t) (hW : t 190 45 = W) (ho : t 190 47 = o) (hW1 : s 190 45 = W1) (hp : 0 < o) (hw : t 190 49 = 0) (f1 : zfr [(5, 7), (10, 4), (33, 0), (34, 0)] m m1) (f2 : zfr [(28, 22), (28, 46), (28, 47), (117, 0), (118, 0), (119, 0), (121, 0)] t s) (q1 : m1 47 3 = W1) (q2 : 0 ≤ W1) (q3 : W1 ≤ W) (q4 : W1 = 0 ∨ zrk (t 211 (W1 - 1)) < 1) (q5 : ∀ i, W1 ≤ i → i < W → 1 ≤ zrk (t 211 i)) (g1 : zfr zWB (zu_up (zu_up s 190 45 (zu_w32 (s 190 45 - 1))) 190 47 (zu_w32 (s 190 47 - 1))) t') : zFM (zu_up (zu_up m1 47 3 (zu_w32 (m1 47 3 - 1))) 47 4 (zu_w32 (m1 47 4 - 1))) t' := by
  have hF0 := hF
  obtain ⟨⟨-, a2, a3, a4⟩, ⟨b1, b2, b3⟩, -, -, ⟨e1, e2⟩, ⟨k1, k2, k3, k4⟩, -⟩ := hF
  rw [hW] at a2 a3 a4 b3 k4
  rw [ho] at b1 b2 b3 k4
  have hpop := zdpq_pop (w := t 211) (zN1 q3) (fun i i0 i1 => q5 i (zN2 i0) (zN3 i1))
  have p1 : W1 ≠ 0 := fun q => by
    rw [q] at hpop
    rw [b3, hpop] at hp
    exact Int.lt_irrefl 0 hp
  have p2 : 0 < W1 := by clear b3 hpop a4 q5 q4 f1 f2 g1; omega
  have z : t 211 (W1 - 1) = 0 := zrk_z (a4 (W1 - 1) (by clear b3 hpop a4 q5 q4 f1 f2 g1; omega) (by clear b3 hpop a4 q5 q4 f1 f2 g1; omega)) (q4.resolve_left p1)
  have m4 : m1 47 4 = o := (zfr_ap f1 zq_47 rfl).trans b1
  have s47 : s 190 47 = o := (zfr_ap f2 zq_190 rfl).trans ho
  have m49 : ∀ i, m1 49 i = m 49 i := fun i => zfr_ap f1 zq_49 rfl
  have m48 : ∀ i, m1 48 i = m 48 i := fun i => zfr_ap f1 zq_48 rfl
  have s211 : ∀ i, s 211 i = t 211 i := fun i => zfr_ap f2 zq_211 rfl
  have m6 : m1 47 6 = m 47 6 := zfr_ap f1 zq_47 rfl
  have m7 : m1 47 7 = m 47 7 := zfr_ap f1 zq_47 rfl
  have m5 : m1 10 5 = m 10 5 := zfr_ap f1 zq_10 rfl
  have s49 : s 190 49 = t 190 49 := zfr_ap f2 zq_190 rfl
  have s50 : s 190 50 = t 190 50 := zfr_ap f2 zq_190 rfl
  have s48 : s 190 48 = t 190 48 := zfr_ap f2 zq_190 rfl
  have w1 : zu_w32 (W1 - 1) = W1 - 1 := zu_w32_id (by clear b3 hpop a4 q5 q4 f1 f2 g1; omega) (by clear b3 hpop a4 q5 q4 f1 f2 g1; omega)
  have w2 : zu_w32 (o - 1) = o - 1 := zu_w32_id (by clear b3 hpop a4 q5 q4 f1 f2 g1 w1; omega) (by clear b3 hpop a4 q5 q4 f1 f2 g1 w1; omega)
  rw [q1, m4, w1, w2]
  rw [hW1, s47, w1, w2] at g1
  have hp1 := zFM_pop (mb := zu_up (zu_up (zu_up m 47 3 W1) 49 o (zb01 (zhq (t 211) W1.toNat))) 47 4 o) (tb := zu_up (zu_up t 190 45 W1) 190 47 o) hF0 hW ho (Int.le_refl 1) q2 q3 q5 (by simp [zu_up_app]) (by simp [zu_up_app]) (fun i => by simp [zu_up_app]) (fun i => by simp [zu_up_app]) (by simp [zu_up_app]) (fun i hi => by simp [zu_up_app, hi]) (by simp [zu_up_app]) (by simp [zu_up_app]) ⟨by simp [zu_up_app, e1], by simp [zu_up_app, e2]⟩ ⟨by simp [zu_up_app, k1], by simp [zu_up_app, k2], by simp [zu_up_app, k3], by simp [zu_up_app]; exact Int.le_trans q3 k4⟩ (by simp [zu_up_app, hw])
  generalize hmb : zu_up (zu_up (zu_up m 47 3 W1) 49 o (zb01 (zhq (t 211) W1.toNat))) 47 4 o = mb at hp1
  generalize htb : zu_up (zu_up t 190 45 W1) 190 47 o = tb at hp1
  have r45 : tb 190 45 = W1 := by rw [← htb]; simp [zu_up_app]
  have r47 : tb 190 47 = o := by rw [← htb]; simp [zu_up_app]
  have r211 : ∀ i, tb 211 i = t 211 i := fun i => by rw [← htb]; simp [zu_up_app]
  have r48 : ∀ i, mb 48 i = m 48 i := fun i => by rw [← hmb]; simp [zu_up_app]
  have r49 : ∀ i, i ≠ o → mb 49 i = m 49 i := fun i hi => by rw [← hmb]; simp [zu_up_app, hi]
  clear hmb htb
  generalize hm' : zu_up (zu_up m1 47 3 (W1 - 1)) 47 4 (o - 1) = m'
  generalize hs2 : zu_up (zu_up s 190 45 (W1 - 1)) 190 47 (o - 1) = s2 at g1
  have u3 : m' 47 3 = W1 - 1 := by rw [← hm']; simp [zu_up_app]
  have u4 : m' 47 4 = o - 1 := by rw [← hm']; simp [zu_up_app]
  have u6 : m' 47 6 = t 190 49 := by rw [← hm']; simp [zu_up_app, m6, e1]
  have u7 : m' 47 7 = t 190 50 := by rw [← hm']; simp [zu_up_app, m7, e2]
  have u5 : m' 10 5 = t 190 48 := by rw [← hm']; simp [zu_up_app, m5, k1]
  have u48 : ∀ i, m' 48 i = m 48 i := fun i => by rw [← hm']; simp [zu_up_app, m48]
  have u49 : ∀ i, m' 49 i = m 49 i := fun i => by rw [← hm']; simp [zu_up_app, m49]
  have v45 : t' 190 45 = W1 - 1 := (zfr_ap g1 zq_190 rfl).trans (by rw [← hs2]; simp [zu_up_app])
  have v47 : t' 190 47 = o - 1 := (zfr_ap g1 zq_190 rfl).trans (by rw [← hs2]; simp [zu_up_app])
  have v49 : t' 190 49 = t 190 49 := (zfr_ap g1 zq_190 rfl).trans (by rw [← hs2]; simp [zu_up_app, s49])
  have v50 : t' 190 50 = t 190 50 := (zfr_ap g1 zq_190 rfl).trans (by rw [← hs2]; simp [zu_up_app, s50])
  have v48 : t' 190 48 = t 190 48 := (zfr_ap g1 zq_190 rfl).trans (by rw [← hs2]; simp [zu_up_app, s48])
  have v211 : ∀ i, t' 211 i = t 211 i := fun i => (zfr_ap g1 zq_211 rfl).trans (by rw [← hs2]; simp [zu_up_app, s211])
  have x1 : W1 - 1 + 1 = W1 := Int.sub_add_cancel W1 1
  have x2 : o - 1 + 1 = o := Int.sub_add_cancel o 1
  refine zFM_cl (W := W1 - 1) (o := o - 1) hp1 (r45.trans x1.symm) (Int.le_sub_one_of_lt p2) ((r211 _).trans z) (r47.trans x2.symm) u3 v45 (fun i => (v211 i).trans (r211 i).symm) (fun i => (u48 i).trans (r48 i).symm) (fun i hi => ?_) u4 v47 ⟨u6.trans v49.symm, u7.trans v50.symm⟩ ⟨u5.trans v48.symm, ?_, ?_, ?_⟩ (v49.trans hw)
  · rw [x2] at hi
    exact (u49 i).trans (r49 i hi).symm
  · rw [v48]; exact k2
  · rw [v48]; exact k3
  · rw [v48]; exact zW3 (Int.le_trans q3 k4)
theorem zbeh_close (n : Nat) {m t : zu_m} (hF : zFM m t) (hX : zR_BX m) (hk : m 45 4 = 4 ∧ m 45 5 = 2) (hk' : t 190 8 = 4 ∧ t 190 9 = 41) (hp : 0 < t 190 47) (hw : t 190 49 = 0) (hB : zTB t) : zl (zu_call (zt_T n) 202 [(24, 47)] m) (fun v m' => zl (zu_call (zt_T n) 117 [(40, 190)] t) (fun w t' => v = 0 ∧ w = 1 ∧ zFM m' t' ∧ zNX t t' ∧ t' 190 5 = t 190 5)) := by
  have hWM := hF.1
  have b1 := hF.2.1.1
  refine zl_mono (zz_202_close n hk (by rw [b1]; exact hp) (P := fun m' => zl (zu_call (zt_T n) 117 [(40, 190)] t) (fun w t' => w = 1 ∧ zFM m' t' ∧ zNX t t' ∧ t' 190 5 = t 190 5)) ?_) (fun v m' hs => zl_mono hs.2 (fun w t' h2 => ⟨hs.1, h2⟩))
  refine zl_mono (zz_lay n hX hWM (b := 1)) (fun _ m1 hs => ?_)
  refine zl_mono (zz_117_close n hB hk' hp (P := fun s => zfr [(5, 7), (10, 4), (33, 0), (34, 0)] m m1 ∧ m1 47 3 = s 190 45 ∧ 0 ≤ s 190 45 ∧ s 190 45 ≤ t 190 45 ∧ (s 190 45 = 0 ∨ zrk (t 211 (s 190 45 - 1)) < 1) ∧ ∀ i, s 190 45 ≤ i → i < t 190 45 → 1 ≤ zrk (t 211 i)) (zl_mono hs (fun _ s h => ⟨h.2.1, h.1, h.2.2⟩))) (fun w t' h2 => ?_)
  obtain ⟨w1, s, ⟨f1, q1, q2, q3, q4, q5⟩, f2, g1, g2⟩ := h2
  refine ⟨w1, zbeh_cl hF rfl rfl rfl hp hw f1 f2 q1 q2 q3 q4 q5 g1, g2, ?_⟩
  rw [zfr_ap (p := 5) g1 zq_190 rfl, ← show s 190 5 = t 190 5 from zfr_ap f2 zq_190 rfl]
  simp [zu_up_app]

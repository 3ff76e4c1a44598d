/-! LINES side by side -/
/-- what is told of faults stays -/
def zKF (m t m' t' : zu_m) : Prop := m' 5 9 = m 5 9 ∧ m' 5 10 = m 5 10 ∧ t' 190 5 = t 190 5
theorem zKF_fr {W V : List (Nat × Nat)} {m m' t t' : zu_m} (hf : zfr W m m') (hft : zfr V t t') (hd : zdis W [(3, 10), (3, 11)] = true) (hd' : zdis V [(28, 6)] = true) : zKF m t m' t' :=
  ⟨zdis_fr hf hd 5 9 (by rw [zq_5]; rfl), zdis_fr hf hd 5 10 (by rw [zq_5]; rfl), zdis_fr hft hd' 190 5 (by rw [zq_190]; rfl)⟩
theorem zKF_tr {m t m1 t1 m2 t2 : zu_m} (h1 : zKF m t m1 t1) (h2 : zKF m1 t1 m2 t2) : zKF m t m2 t2 := ⟨h2.1.trans h1.1, h2.2.1.trans h1.2.1, h2.2.2.trans h1.2.2⟩
def zPL (m t : zu_m) (v : Int) (m' : zu_m) (w : Int) (t' : zu_m) : Prop := (v = 0 ∧ w = 0 ∧ zFLT m' t') ∨ (v = 1 ∧ w = 1 ∧ zST m' t' ∧ zLAG m' t' ∧ zRD m' t' ∧ zKF m t m' t' ∧ m 45 3 ≤ m' 45 3)
def zspr (k : Nat) : Int := ((k % 2 + 64 * (k / 2 % 2) + 128 * (k / 4 % 2) + 256 * (k / 8 % 2) + 512 * (k / 16 % 2) + 1024 * (k / 32 % 2) : Nat) : Int)
theorem zspr_tab : (List.range 64).all (fun k => [(0, 1, 1), (6, 64, 2), (7, 128, 4), (8, 256, 8), (9, 512, 16), (10, 1024, 32)].all (fun (q : Int × Int × Nat) => decide (zu_i32 3 (zu_i32 6 (zspr k) q.1) 1 = ((k / q.2.2 % 2 : Nat) : Int)) && (Nat.beq (k / q.2.2 % 2) 1 || decide (zu_i32 4 (zspr k) (zu_i32 5 1 q.1) = zspr k + q.2.1)))) = true := by decide +kernel
theorem zOnce {m t : zu_m} (h : zDo m t) {i w P : Int} (hi : (i = 0 ∧ w = 0 ∧ P = 1) ∨ (i = 1 ∧ w = 6 ∧ P = 64) ∨ (i = 2 ∧ w = 7 ∧ P = 128) ∨ (i = 3 ∧ w = 8 ∧ P = 256) ∨ (i = 4 ∧ w = 9 ∧ P = 512) ∨ (i = 5 ∧ w = 10 ∧ P = 1024)) : zu_i32 3 (zu_i32 6 (m 5 4) w) 1 = t 193 i ∧ (t 193 i = 0 → zu_i32 4 (m 5 4) (zu_i32 5 1 w) = m 5 4 + P) := by
  obtain ⟨hx, hb⟩ := h
  have b0 := hb 0 (by omega) (by omega)
  have b1 := hb 1 (by omega) (by omega)
  have b2 := hb 2 (by omega) (by omega)
  have b3 := hb 3 (by omega) (by omega)
  have b4 := hb 4 (by omega) (by omega)
  have b5 := hb 5 (by omega) (by omega)
  have c0 : 0 ≤ t 193 0 ∧ t 193 0 ≤ 1 := by omega
  have c1 : 0 ≤ t 193 1 ∧ t 193 1 ≤ 1 := by omega
  have c2 : 0 ≤ t 193 2 ∧ t 193 2 ≤ 1 := by omega
  have c3 : 0 ≤ t 193 3 ∧ t 193 3 ≤ 1 := by omega
  have c4 : 0 ≤ t 193 4 ∧ t 193 4 ≤ 1 := by omega
  have c5 : 0 ≤ t 193 5 ∧ t 193 5 ≤ 1 := by omega
  clear b0 b1 b2 b3 b4 b5 hb
  obtain ⟨k, hk⟩ : ∃ k : Nat, (k : Int) = t 193 0 + 2 * t 193 1 + 4 * t 193 2 + 8 * t 193 3 + 16 * t 193 4 + 32 * t 193 5 := ⟨(t 193 0 + 2 * t 193 1 + 4 * t 193 2 + 8 * t 193 3 + 16 * t 193 4 + 32 * t 193 5).toNat, by omega⟩
  have d0 : ((k % 2 : Nat) : Int) = t 193 0 := by omega
  have d1 : ((k / 2 % 2 : Nat) : Int) = t 193 1 := by omega
  have d2 : ((k / 4 % 2 : Nat) : Int) = t 193 2 := by omega
  have d3 : ((k / 8 % 2 : Nat) : Int) = t 193 3 := by omega
  have d4 : ((k / 16 % 2 : Nat) : Int) = t 193 4 := by omega
  have d5 : ((k / 32 % 2 : Nat) : Int) = t 193 5 := by omega
  have hs : m 5 4 = zspr k := by unfold zspr; omega
  have hT := List.all_eq_true.mp zspr_tab k (List.mem_range.mpr (by omega))
  rw [hs]
  have key : ∀ (w P : Int) (d : Nat) (b : Int), (w, P, d) ∈ [((0 : Int), (1 : Int), (1 : Nat)), (6, 64, 2), (7, 128, 4), (8, 256, 8), (9, 512, 16), (10, 1024, 32)] → ((k / d % 2 : Nat) : Int) = b → zu_i32 3 (zu_i32 6 (zspr k) w) 1 = b ∧ (b = 0 → zu_i32 4 (zspr k) (zu_i32 5 1 w) = zspr k + P) := fun w P d b hm hb => by
    have hq := List.all_eq_true.mp hT _ hm
    obtain ⟨q1, q2⟩ := Bool.and_eq_true_iff.mp hq
    refine ⟨(of_decide_eq_true q1).trans hb, fun h0 => ?_⟩
    rcases Bool.or_eq_true_iff.mp q2 with q2 | q2
    · have q3 : k / d % 2 = 1 := Nat.eq_of_beq_eq_true q2
      rw [q3, h0] at hb
      exact absurd hb (by decide)
    · exact of_decide_eq_true q2
  rcases hi with ⟨rfl, rfl, rfl⟩ | ⟨rfl, rfl, rfl⟩ | ⟨rfl, rfl, rfl⟩ | ⟨rfl, rfl, rfl⟩ | ⟨rfl, rfl, rfl⟩ | ⟨rfl, rfl, rfl⟩
  · exact key 0 1 1 _ (by simp) (by rw [Nat.div_one]; exact d0)
  · exact key 6 64 2 _ (by simp) d1
  · exact key 7 128 4 _ (by simp) d2
  · exact key 8 256 8 _ (by simp) d3
  · exact key 9 512 16 _ (by simp) d4
  · exact key 10 1024 32 _ (by simp) d5
theorem zDo_up {m t m' t' : zu_m} (h : zDo m t) {i P : Int} (hi : (i = 0 ∧ P = 1) ∨ (i = 1 ∧ P = 64) ∨ (i = 2 ∧ P = 128) ∨ (i = 3 ∧ P = 256) ∨ (i = 4 ∧ P = 512) ∨ (i = 5 ∧ P = 1024)) (h0 : t 193 i = 0) (hm : m' 5 4 = m 5 4 + P) (ht : t' 193 i = 1) (ho : ∀ j, j ≠ i → t' 193 j = t 193 j) : zDo m' t' := by
  obtain ⟨hx, hb⟩ := h
  refine ⟨?_, fun j j0 j1 => ?_⟩
  · rcases hi with ⟨rfl, rfl⟩ | ⟨rfl, rfl⟩ | ⟨rfl, rfl⟩ | ⟨rfl, rfl⟩ | ⟨rfl, rfl⟩ | ⟨rfl, rfl⟩
    · rw [ht, ho 1 (by decide), ho 2 (by decide), ho 3 (by decide), ho 4 (by decide), ho 5 (by decide)]; omega
    · rw [ht, ho 0 (by decide), ho 2 (by decide), ho 3 (by decide), ho 4 (by decide), ho 5 (by decide)]; omega
    · rw [ht, ho 0 (by decide), ho 1 (by decide), ho 3 (by decide), ho 4 (by decide), ho 5 (by decide)]; omega
    · rw [ht, ho 0 (by decide), ho 1 (by decide), ho 2 (by decide), ho 4 (by decide), ho 5 (by decide)]; omega
    · rw [ht, ho 0 (by decide), ho 1 (by decide), ho 2 (by decide), ho 3 (by decide), ho 5 (by decide)]; omega
    · rw [ht, ho 0 (by decide), ho 1 (by decide), ho 2 (by decide), ho 3 (by decide), ho 4 (by decide)]; omega
  · by_cases e : j = i
    · rw [e]; exact Or.inr ht
    · rw [ho j e]; exact hb j j0 j1
theorem zc_263a (n : Nat) {m : zu_m} {w : Int} (h : zu_i32 3 (zu_i32 6 (m 5 4) w) 1 ≠ 1) : zu_call (zt_T n) 263 [(7, 5), (0, w)] m = some (1, zu_up m 5 4 (zu_i32 4 (m 5 4) (zu_i32 5 1 w))) := by
  rw [zu_call_at (zt_T n) (zm_263 n) (zdp_263 n) _ _ _ _ _ rfl (zr_263_0 n _ _ 5 w m), if_pos h, zu_b1]
theorem zc_263b (n : Nat) {m : zu_m} {w : Int} (h : zu_i32 3 (zu_i32 6 (m 5 4) w) 1 = 1) : zu_call (zt_T n) 263 [(7, 5), (0, w)] m = some (0, zFL m 3) := by
  rw [zu_call_at (zt_T n) (zm_263 n) (zdp_263 n) _ _ _ _ _ rfl (zr_263_0 n _ _ 5 w m), if_neg (fun q => q h), zc_257, zu_bds, zu_b0]
/-- tellOnce and isOnce -/
theorem zp_once (n : Nat) {m t : zu_m} (h : zST m t) (hS : zSYN m t) (hD : zDo m t) {i w P : Int} (hi : (i = 0 ∧ w = 0 ∧ P = 1) ∨ (i = 1 ∧ w = 6 ∧ P = 64) ∨ (i = 2 ∧ w = 7 ∧ P = 128) ∨ (i = 3 ∧ w = 8 ∧ P = 256) ∨ (i = 4 ∧ w = 9 ∧ P = 512) ∨ (i = 5 ∧ w = 10 ∧ P = 1024)) : zw (zu_call (zt_T n) 263 [(7, 5), (0, w)] m) (fun v m' => zw (zu_call (zt_T n) 98 [(40, 190), (0, i)] t) (fun w t' => zPO [(3, 5)] [(28, 8), (28, 9), (28, 10), (28, 11), (102, 0)] m t (fun m' t' => zDo m' t') v m' w t')) := by
  obtain ⟨o1, o2⟩ := zOnce hD hi
  have hb := hD.2 i (by omega) (by omega)
  rw [zu_call_at (zt_T n) (zm_98 n) (zdp_98 n) _ _ _ _ _ rfl (zr_98_0 n _ _ 190 i t), if_pos (by omega)]
  by_cases h0 : t 193 i = 0
  · rw [zc_263a n (by omega), if_pos h0, zu_b1, if_pos (by omega), o2 h0]
    refine zw_some ?_
    generalize hm1 : zu_up m 5 4 (m 5 4 + P) = m1
    generalize ht1 : zu_up t 193 i 1 = t1
    have bnd : 0 ≤ m 5 4 ∧ m 5 4 ≤ 2000 := by
      have := hD.1
      have := hD.2 0 (by omega) (by omega)
      have := hD.2 1 (by omega) (by omega)
      have := hD.2 2 (by omega) (by omega)
      have := hD.2 3 (by omega) (by omega)
      have := hD.2 4 (by omega) (by omega)
      have := hD.2 5 (by omega) (by omega)
      omega
    have hI1 := zi_up hm1 h.1 zq_5 zb_3_4 (by omega) (by omega)
    have hf1 : zfr [(3, 5)] m m1 := zfr_up hm1 (zfr_rf _ _) zq_5 rfl
    have hIt1 := zi_up ht1 h.2.1 zq_193 (zb_102 i) (by omega) (by omega)
    have hft1 : zfr [(102, 0)] t t1 := zfr_up ht1 (zfr_rf _ _) zq_193 rfl
    have e3 : m1 45 3 = m 45 3 := zfr_ap hf1 zq_45 rfl
    have e7 : t1 190 7 = t 190 7 := zfr_ap hft1 zq_190 rfl
    refine zw_bd (zw_mono (zp_tkn n (zST_r (zST_l h hI1 hf1 rfl) hIt1 hft1 rfl) (by rw [e3, e7]; exact hS.1)) (fun _ t2 hs => ?_))
    obtain ⟨q1, q2, q3⟩ := hs
    rw [zu_b1]
    have e193 : ∀ j, t2 193 j = t1 193 j := fun j => zfr_ap q2 zq_193 rfl
    refine zw_some (Or.inr ⟨rfl, rfl, q1, q3, hf1, ?_, by omega, ?_⟩)
    · exact zfr_tr (zfr_tr (zfr_rf _ t) hft1 rfl) q2 rfl
    · refine zDo_up hD (i := i) (P := P) (by omega) h0 (zs_eq hm1) (by rw [e193]; exact zs_eq ht1) (fun j hj => by rw [e193]; exact zs_ne ht1 (Or.inr hj))
  · have h1 : t 193 i = 1 := by omega
    rw [zc_263b n (by omega), if_neg h0, zc_85, zu_bds, zu_b0]
    exact zw_some (zw_some (zPO_0 (zFLT_of (by decide) hS.2.1)))

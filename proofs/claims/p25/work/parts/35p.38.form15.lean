/-! a formula, side by side -/
theorem zKV_s0 {k v : Int} (h : zKV k v 4 59) : k = 4 ∧ v = 0 := by
  unfold zKV at h
  omega
theorem zKV_s1 {k' w : Int} (h : zKV 4 0 k' w) : k' = 4 ∧ w = 59 := by
  unfold zKV at h
  omega
theorem zKV_k0 {v k' w : Int} (h : zKV 0 v k' w) : k' = 0 := by
  unfold zKV at h
  omega
theorem zSYN_mv {m m' t t' : zu_m} (h : zSYN m t) (e2 : m' 45 2 = m 45 2) (e3 : m' 45 3 = m 45 3) (e4 : m' 45 4 = m 45 4) (e5 : m' 45 5 = m 45 5) (e6 : m' 45 6 = m 45 6) (f7 : t' 190 7 = t 190 7) (f8 : t' 190 8 = t 190 8) (f9 : t' 190 9 = t 190 9) (f10 : t' 190 10 = t 190 10) : zSYN m' t' := by
  unfold zSYN at h ⊢
  rw [e2, e3, e4, e5, e6, f7, f8, f9, f10]
  exact h
def zFO (m t : zu_m) (v : Int) (m' : zu_m) (w : Int) (t' : zu_m) : Prop := zFE v m' w t' ∨ (v = 0 ∧ w = 1 ∧ zSYN m' t' ∧ (t' 190 8 = 4 ∧ t' 190 9 = 59) ∧ m' 10 5 = t' 190 48 ∧ (∀ i, m' 13 i = m 13 i) ∧ t' 190 5 = t 190 5)
theorem zz_sumEnd (n : Nat) {a : Int} (ha : 0 ≤ a ∧ a ≤ 3) {m t : zu_m} (hST : zST m t) (hS : zSYN m t) (hF : zFM m t) (hC : zKC m) (hR : zKR t) (hw : t 190 49 = 0) (h59 : t 190 8 = 4 ∧ t 190 9 = 59) : zw (zu_bd (zu_call (zt_T n) 206 [(24, 47), (0, 1)] m) (fun v86 s86 => (if 0 ≤ a ∧ a < 4 then (some (0, (zu_up s86 (10 + 4) a (s86 10 6)))) else none))) (fun v m' => zw (zu_bd (zu_call (zt_T n) 112 [(40, 190), (0, 1)] t) (fun v76 s76 => (zu_b 1 (some (1, s76))))) (fun w t' => zFO m t v m' w t')) := by
  obtain ⟨a1, a2, a3, a4, -⟩ := hST
  obtain ⟨c1, c2, c3, c4⟩ := hC
  obtain ⟨k1, k2, k3, k4, k5, k6⟩ := hR
  have x2 : t 190 46 = zbi t + 1 := by rw [hw, Int.add_zero] at k5; exact k5
  have x3 : t 190 21 + znz t ≤ 64 := by rw [k3]; exact hF.2.2.2.2.2.1.2.2.1
  refine zw_pair (zw_two (zk_206 n a1 zq_47 (by decide) (by decide) c1 c2) (zk_112 n a2 zq_190 (by decide) x2 x3 (by decide) k1)) (fun v m2 w t2 hs => ?_)
  obtain ⟨⟨-, hf, -⟩, ⟨-, hft, -⟩⟩ := hs
  rw [if_pos (show 0 ≤ a ∧ a < 4 from ⟨ha.1, Int.lt_of_le_of_lt ha.2 (by decide)⟩), zu_b1]
  generalize hm3 : zu_up m2 (10 + 4) a (m2 10 6) = m3
  have e45 : ∀ i, m3 45 i = m 45 i := fun i => (zs_ne hm3 (Or.inl (by decide))).trans (zfr_ap hf zq_45 rfl)
  have e10 : m3 10 5 = m 10 5 := (zs_ne hm3 (Or.inl (by decide))).trans (zfr_ap hf zq_10 rfl)
  exact zw_some (zw_some (Or.inr ⟨rfl, rfl, zSYN_mv hS (e45 2) (e45 3) (e45 4) (e45 5) (e45 6) (zfr_ap hft zq_190 rfl) (zfr_ap hft zq_190 rfl) (zfr_ap hft zq_190 rfl) (zfr_ap hft zq_190 rfl), ⟨(zfr_ap hft zq_190 rfl).trans h59.1, (zfr_ap hft zq_190 rfl).trans h59.2⟩, e10.trans (hF.2.2.2.2.2.1.1.trans (zfr_ap hft zq_190 rfl).symm), fun i => (zs_ne hm3 (Or.inl (by decide))).trans (zfr_ap hf zq_13 rfl), zfr_ap hft zq_190 rfl⟩))
theorem zW12 {i p q r : Int} (h1 : i ≤ p) (h2 : p ≤ q) (h3 : q < r) : i + 1 ≤ r := by omega
theorem zW13 {i : Int} {k : Nat} (h : 700 - i < ((k + 1 : Nat) : Int)) : 700 - (i + 1) < (k : Int) := by omega
theorem zz_sumLoop (n : Nat) {a : Int} (ha : 0 ≤ a ∧ a ≤ 3) : ∀ (k : Nat) (i : Int) (m t : zu_m), zLP m t → 0 ≤ i → i ≤ m 45 3 → 700 - i < (k : Int) → zw (zu_ex (zt_T n) 198 45 [(24, 47), (0, a), (0, i), (2, 0)] [] m) (fun v m' => zw (zu_ex (zt_T n) 118 25 [(40, 190)] [] t) (fun w t' => zFO m t v m' w t')) := by
  intro k
  induction k with
  | zero =>
    intro i m t hL i0 i1 hk
    have := (zi_rd hL.1.1 zq_45 zb_9_3).2
    exfalso
    clear hL
    omega
  | succ k ih =>
    intro i m t hL i0 i1 hk
    obtain ⟨hST, hLG, hF, hC, hR⟩ := hL
    have b700 := (zi_rd hST.1 zq_45 zb_9_3).2
    have i700 : i ≤ 700 := Int.le_trans i1 b700
    refine zw_eq (zu_rega_at (zt_T n) (zm_198 n) (zdp_198 n) _ _ _ _ _ _ (zr_198_45 n _ _ 47 a i m)) ?_
    rw [if_neg (Int.not_lt.mpr i700)]
    have href : zu_ex (zt_T n) 118 25 [(40, 190)] [] t = _ := zu_rega_at (zt_T n) (zm_118 n) (zdp_118 n) _ _ _ _ _ _ (zr_118_25 n _ _ 190 t)
    rw [href, zc_93, zu_bds]
    refine zw_bd (zw_mono (zw_and (zp_adv n hST hLG) (zk_18 n hST.1 zq_45)) (fun _ m1 hs => ?_))
    obtain ⟨⟨hST1, hf1, hS1, hle⟩, -, -, hTV, -⟩ := hs
    have hF1 : zFM m1 t := zFM_l hF hf1 rfl
    have hC1 : zKC m1 := by
      obtain ⟨c1, c2, c3, c4⟩ := hC
      refine ⟨zR_BN_fr (zdis_fr hf1 rfl) c1, zR_K10_fr (zdis_fr hf1 rfl) c2, ?_, zR_BX_fr hf1 rfl c4⟩
      rw [zop_fr (zdis_fr hf1 rfl), zfr_ap hf1 zq_47 rfl]
      exact c3
    have e6 : m1 47 6 = t 190 49 := hF1.2.2.2.2.1.1
    have e4 : m1 47 4 = t 190 47 := hF1.2.1.1
    have n47 : 0 ≤ t 190 47 := by rw [hF1.2.1.2.2]; exact zdpq_nn _ _
    have w32 : zu_w32 (i + 1) = i + 1 := zu_w32_id (by clear hST hLG hF hC hR ih hST1 hf1 hS1 hTV hF1 hC1 href; omega) (by clear hST hLG hF hC hR ih hST1 hf1 hS1 hTV hF1 hC1 href; omega)
    rw [w32]
    have gon : ∀ (v : Int) (m' : zu_m) (w : Int) (t' : zu_m), zFS m1 t v m' w t' → zw (if v = 0 then (zu_ex (zt_T n) 198 45 [(24, 47), (0, a), (0, i + 1), (0, v)] [] m') else (some (v, m'))) (fun v2 m2 => zw (if w = 0 then (zu_b 0 (some (0, t'))) else (zu_ex (zt_T n) 118 25 [(40, 190)] [] t')) (fun w2 t2 => zFO m t v2 m2 w2 t2)) := by
      intro v m' w t' h
      rcases h with ⟨q1, q2, q3, q4⟩ | ⟨q1, q2, q3, q4, q5, q6, q7⟩
      · rw [if_neg q1, if_pos q2, zu_b0]
        refine zw_some (zw_some (Or.inl ⟨q1, rfl, q3, q4⟩))
      · subst q1
        subst q2
        rw [if_pos rfl, if_neg (show ¬ (1 : Int) = 0 by decide)]
        refine zw_le (zu_forget (zu_lr_same (zu_lr_same (zu_lr_same (zu_lr_drop zu_lr_nil))))) (zw_mono2 (ih (i + 1) m' t' q3 (Int.le_trans i0 (Int.le_of_lt (Int.lt_succ i))) ?_ (zW13 hk)) (fun v2 m2 w2 t2 h2 => ?_))
        rotate_left
        · rcases h2 with h2 | ⟨y1, y2, y3, y4, y5, y6, y7⟩
          · exact Or.inl h2
          · exact Or.inr ⟨y1, y2, y3, y4, y5, fun i => ((y6 i).trans (q6 i)).trans (zfr_ap hf1 zq_13 rfl), y7.trans q7⟩
        rw [q4]
        have hz : m1 45 4 ≠ 0 := fun q => by
          have hK := hS1.2.2.1
          rw [q] at hK
          exact q5 (zKV_k0 hK)
        rcases hS1.2.2.2.2 with ⟨z1, -⟩ | ⟨-, -, z2⟩
        · exact absurd z1 hz
        · exact zW12 i1 hle z2
    have gB : t 190 49 ≠ 0 → zw (zu_bd (zu_call (zt_T n) 199 [(24, 47)] m1) (fun v115 s115 => (if v115 = 0 then (zu_ex (zt_T n) 198 45 [(24, 47), (0, a), (0, i + 1), (0, v115)] [] s115) else (some (v115, s115))))) (fun v m' => zw (zu_bd (zu_call (zt_T n) 116 [(40, 190)] t) (fun v56 s56 => (if v56 = 0 then (zu_b 0 (some (0, s56))) else (zu_ex (zt_T n) 118 25 [(40, 190)] [] s56)))) (fun w t' => zFO m t v m' w t')) := fun hw =>
      zw_pair (zz_step199 n hST1 hS1 hF1 hC1 hR hw) gon
    have gA : t 190 49 = 0 → zw (zu_bd (zu_call (zt_T n) 202 [(24, 47)] m1) (fun v122 s122 => (if v122 = 0 then (zu_ex (zt_T n) 198 45 [(24, 47), (0, a), (0, i + 1), (0, v122)] [] s122) else (some (v122, s122))))) (fun v m' => zw (zu_bd (zu_call (zt_T n) 117 [(40, 190)] t) (fun v66 s66 => (if v66 ≠ 0 then (zu_ex (zt_T n) 118 25 [(40, 190)] [] s66) else (zu_b 0 (some (0, s66)))))) (fun w t' => zFO m t v m' w t')) := fun hw => by
      refine zw_pair (zz_step202 n hST1 hTV hS1 hF1 hC1 hR hw) (fun v m' w t' h => ?_)
      have := gon v m' w t' h
      by_cases hw0 : w = 0
      · rw [if_pos hw0] at this
        rw [if_neg (show ¬ w ≠ 0 from fun q => q hw0)]
        exact this
      · rw [if_neg hw0] at this
        rw [if_pos (show w ≠ 0 from hw0)]
        exact this
    rw [zc_278, zu_bds, e6, e4]
    by_cases hw : t 190 49 = 0
    · rw [if_neg (show ¬ t 190 49 ≠ 0 from fun q => q hw), if_pos hw]
      by_cases ho : t 190 47 = 0
      · by_cases h59 : t 190 8 = 4 ∧ t 190 9 = 59
        · have hk4 : m1 45 4 = 4 ∧ m1 45 5 = 0 := by
            have hK := hS1.2.2.1
            rw [h59.1, h59.2] at hK
            exact zKV_s0 hK
          rw [if_pos h59, if_pos hk4, if_neg (show ¬ (1 : Int) = 0 by decide), if_neg (show ¬ (1 : Int) = 0 by decide), if_neg (show ¬ t 190 47 ≠ 0 from fun q => q ho), if_pos (show t 190 47 ≤ 0 from Int.le_of_eq ho), if_neg (show ¬ t 190 49 ≠ 0 from fun q => q hw)]
          refine zw_mono2 (zz_sumEnd n ha hST1 hS1 hF1 hC1 hR hw h59) (fun v2 m2 w2 t2 h2 => ?_)
          rcases h2 with h2 | ⟨y1, y2, y3, y4, y5, y6, y7⟩
          · exact Or.inl h2
          · exact Or.inr ⟨y1, y2, y3, y4, y5, fun i => (y6 i).trans (zfr_ap hf1 zq_13 rfl), y7⟩
        · have hk4 : ¬ (m1 45 4 = 4 ∧ m1 45 5 = 0) := fun q => by
            have hK := hS1.2.2.1
            rw [q.1, q.2] at hK
            exact h59 (zKV_s1 hK)
          rw [if_neg h59, if_neg hk4, if_pos (show (0 : Int) = 0 from rfl), if_neg (show ¬ t 190 47 ≠ 0 from fun q => q ho), if_pos (show (0 : Int) = 0 from rfl)]
          repeat rw [if_pos hw]
          exact gA hw
      · rw [if_pos (show t 190 47 ≠ 0 from ho), if_neg (show ¬ t 190 49 ≠ 0 from fun q => q hw), if_neg (show ¬ t 190 47 ≤ 0 from fun q => ho (Int.le_antisymm q n47)), ite_self]
        repeat rw [if_pos hw]
        exact gA hw
    · rw [if_pos (show t 190 49 ≠ 0 from hw), if_neg hw, if_pos (show t 190 49 ≠ 0 from hw), ite_self]
      repeat rw [if_neg hw]
      exact gB hw

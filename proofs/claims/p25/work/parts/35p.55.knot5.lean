/-! the formula's loop: the same knots -/
theorem zl_ofN {x y : Option zu_R} {P : Int → zu_m → Int → zu_m → Prop} (h : zw x (fun v m => zw y (fun w t => P v m w t))) : zl x (fun v m => zl y (fun w t => P v m w t)) := zl_mono (zl_of h) (fun _ _ h => zl_of h)
theorem zl_bothN {x y : Option zu_R} {P Q : Int → zu_m → Int → zu_m → Prop} (h1 : zl x (fun v m => zl y (fun w t => P v m w t))) (h2 : zl x (fun v m => zl y (fun w t => Q v m w t))) : zl x (fun v m => zl y (fun w t => P v m w t ∧ Q v m w t)) := fun v m e w t e2 => ⟨h1 v m e w t e2, h2 v m e w t e2⟩
/-- a formula's knots stand: from f on, one root -/
def zKE (f : Int) (a : Int) (m t : zu_m) : Prop := zKA f m t ∧ t 190 46 = 1 ∧ m 14 a = m 10 6
theorem zz_sumEndK (n : Nat) {a f : Int} (ha : 0 ≤ a ∧ a ≤ 3) {m t : zu_m} (hST : zST m t) (hF : zFM m t) (hC : zKC m) (hR : zKR t) (hw : t 190 49 = 0) (ho : t 190 47 = 0) (hA : zKQ f m t) : zl (zu_bd (zu_call (zt_T n) 206 [(24, 47), (0, 1)] m) (fun v86 s86 => (if 0 ≤ a ∧ a < 4 then (some (0, (zu_up s86 (10 + 4) a (s86 10 6)))) else none))) (fun v m' => zl (zu_bd (zu_call (zt_T n) 112 [(40, 190), (0, 1)] t) (fun v76 s76 => (zu_b 1 (some (1, s76))))) (fun w t' => zKE f a m' t')) := by
  obtain ⟨a1, a2, a3, a4, -⟩ := hST
  obtain ⟨c1, c2, c3, c4⟩ := hC
  obtain ⟨k1, k2, k3, k4, k5, k6⟩ := hR
  have x2 : t 190 46 = zbi t + 1 := by rw [hw, Int.add_zero] at k5; exact k5
  have x3 : t 190 21 + znz t ≤ 64 := by rw [k3]; exact hF.2.2.2.2.2.1.2.2.1
  have hWM := hF.1
  have hd := hF.2.1.2.2
  have h112 := zl_of (zk_112 n a2 zq_190 (by decide) x2 x3 (by decide) k1 : zw (zu_call (zt_T n) 112 [(40, 190), (0, 1)] t) _)
  refine zl_pair (P := fun _ m2 _ t2 => zKQ f m2 t2 ∧ t2 190 46 = 1) ?_ (fun v m2 w t2 hp => ?_)
  · refine zl_mono (zl_both (zz_lay n c4 hWM (b := 1)) (zz_layKc n (b' := 1) (Int.le_refl 1) c4 hWM hF.2.2.2.1 (Or.inl rfl) hA)) (fun _ m2 hs => ?_)
    refine zl_mono (zl_both (zl_both hs.1 hs.2) h112) (fun _ t2 h => ?_)
    obtain ⟨⟨⟨-, f2, q1, q2, q3, q4, q5⟩, hK⟩, -, -, -, -, -, g46, -⟩ := h
    refine ⟨hK, ?_⟩
    -- no bracket is open: nothing waits
    have z45 : t2 190 45 = 0 := by
      rcases q4 with q4 | q4
      · exact q4
      · by_cases h0 : t2 190 45 = 0
        · exact h0
        exfalso
        have p1 : 0 ≤ t2 190 45 - 1 := by clear hs h112 hK; omega
        have p2 : t2 190 45 - 1 < t 190 45 := by clear hs h112 hK; omega
        have z := zrk_z (hWM.2.2.2 _ p1 p2) q4
        have hl := zdpq_lt (w := t 211) (n := (t 190 45).toNat) (p := (t2 190 45 - 1).toNat) (zN4 (by rw [Int.toNat_of_nonneg p1]; exact p2)) (by rw [Int.toNat_of_nonneg p1]; exact z)
        rw [← hd, ho] at hl
        have hnn := zdpq_nn (t 211) (t2 190 45 - 1).toNat
        exact absurd (Int.le_trans (Int.add_le_add_right hnn 1) hl) (by decide)
    have zb : zbi t2 = 0 := by
      unfold zbi
      rw [z45]
      rfl
    rw [zb] at g46
    omega
  · obtain ⟨hK, h46⟩ := hp
    rw [if_pos (show 0 ≤ a ∧ a < 4 from ⟨ha.1, Int.lt_of_le_of_lt ha.2 (by decide)⟩), zu_b1]
    refine zl_some (zl_some ⟨?_, h46, ?_⟩)
    · exact zKA_fr hK.1 (zfr_up (W := [(36, 0)]) rfl (zfr_rf _ m2) (show zcls (10 + 4) = 36 from zq_14) rfl) (zfr_rf [(28, 8)] t2) rfl rfl
    · rw [zu_up_ne (σ := m2) (b := 10) (Or.inl (by decide))]
      exact zu_up_eq
theorem zKQ_a {f : Int} {m m1 t : zu_m} (h : zKQ f m t) (hf : zfr zWA m m1) : zKQ f m1 t := zKQ_fr h hf (zfr_rf [(28, 8)] t) rfl rfl
theorem zz_sumLoopK (n : Nat) {a f : Int} (ha : 0 ≤ a ∧ a ≤ 3) : ∀ (k : Nat) (i : Int) (x3 : zu_v) (m t : zu_m), (x3 = (2, 0) ∨ ∃ v, x3 = (0, v)) → zLP m t → zKQ f m t → 0 ≤ i → i ≤ m 45 3 → 700 - i < (k : Int) → zl (zu_ex (zt_T n) 198 45 [(24, 47), (0, a), (0, i), x3] [] m) (fun v m' => zl (zu_ex (zt_T n) 118 25 [(40, 190)] [] t) (fun w t' => v = 0 → w = 1 → zKE f a m' t')) := by
  intro k
  induction k with
  | zero =>
    intro i x3 m t _ hL _ i0 i1 hk
    have := (zi_rd hL.1.1 zq_45 zb_9_3).2
    exfalso
    clear hL
    omega
  | succ k ih =>
    intro i x3 m t hx3 hL hA i0 i1 hk
    obtain ⟨hST, hLG, hF, hC, hR⟩ := hL
    have b700 := (zi_rd hST.1 zq_45 zb_9_3).2
    have i700 : i ≤ 700 := Int.le_trans i1 b700
    have heq : zu_ex (zt_T n) 198 45 [(24, 47), (0, a), (0, i), x3] [] m = z198 n a i m := by
      rcases hx3 with rfl | ⟨v, rfl⟩
      · exact z198_a n a i m
      · exact z198_b n a i v m
    refine zl_eq heq ?_
    unfold z198
    rw [if_neg (Int.not_lt.mpr i700)]
    have href : zu_ex (zt_T n) 118 25 [(40, 190)] [] t = _ := zu_rega_at (zt_T n) (zm_118 n) (zdp_118 n) _ _ _ _ _ _ (zr_118_25 n _ _ 190 t)
    rw [href, zc_93, zu_bds]
    refine zl_bd (zl_mono (zl_of (zw_and (zp_adv n hST hLG) (zk_18 n hST.1 zq_45))) (fun _ m1 hs => ?_))
    obtain ⟨⟨hST1, hf1, hS1, hle⟩, -, -, hTV, -⟩ := hs
    have hA1 : zKQ f m1 t := zKQ_a hA hf1
    have hF1 : zFM m1 t := zFM_l hF hf1 rfl
    have hC1 : zKC m1 := by
      obtain ⟨c1, c2, c3, c4⟩ := hC
      refine ⟨zR_BN_fr (zdis_fr hf1 rfl) c1, zR_K10_fr (zdis_fr hf1 rfl) c2, ?_, zR_BX_fr hf1 rfl c4⟩
      rw [zop_fr (zdis_fr hf1 rfl), zfr_ap hf1 zq_47 rfl]
      exact c3
    have e6 : m1 47 6 = t 190 49 := hF1.2.2.2.2.1.1
    have e4 : m1 47 4 = t 190 47 := hF1.2.1.1
    have n47 : 0 ≤ t 190 47 := by rw [hF1.2.1.2.2]; exact zdpq_nn _ _
    have w32 : zu_w32 (i + 1) = i + 1 := zW19 i0 (Int.lt_of_le_of_lt i700 (by decide))
    rw [w32]
    have gon : ∀ (v : Int) (m' : zu_m) (w : Int) (t' : zu_m), (zFS m1 t v m' w t' ∧ (v = 0 → w = 1 → zKQ f m' t')) → zl (if v = 0 then (zu_ex (zt_T n) 198 45 [(24, 47), (0, a), (0, i + 1), (0, v)] [] m') else (some (v, m'))) (fun v2 m2 => zl (if w = 0 then (zu_b 0 (some (0, t'))) else (zu_ex (zt_T n) 118 25 [(40, 190)] [] t')) (fun w2 t2 => v2 = 0 → w2 = 1 → zKE f a m2 t2)) := by
      intro v m' w t' h
      obtain ⟨h, hKN⟩ := h
      rcases h with ⟨q1, q2, q3, q4⟩ | ⟨q1, q2, q3, q4, q5, q6, q7⟩
      · rw [if_neg q1]
        exact zl_some (fun w2 t2 _ h0 => absurd h0 q1)
      · subst q1
        subst q2
        rw [if_pos rfl, if_neg (show ¬ (1 : Int) = 0 by decide)]
        refine ih (i + 1) (0, 0) m' t' (Or.inr ⟨0, rfl⟩) q3 (hKN rfl rfl) (Int.le_trans i0 (Int.le_of_lt (Int.lt_succ i))) ?_ (zW13 hk)
        rw [q4]
        have hz : m1 45 4 ≠ 0 := fun q => by
          have hK := hS1.2.2.1
          rw [q] at hK
          exact q5 (zKV_k0 hK)
        rcases hS1.2.2.2.2 with ⟨z1, -⟩ | ⟨-, -, z2⟩
        · exact absurd z1 hz
        · exact zW12 i1 hle z2
    have gB : t 190 49 ≠ 0 → zl (zu_bd (zu_call (zt_T n) 199 [(24, 47)] m1) (fun v115 s115 => (if v115 = 0 then (zu_ex (zt_T n) 198 45 [(24, 47), (0, a), (0, i + 1), (0, v115)] [] s115) else (some (v115, s115))))) (fun v m' => zl (zu_bd (zu_call (zt_T n) 116 [(40, 190)] t) (fun v56 s56 => (if v56 = 0 then (zu_b 0 (some (0, s56))) else (zu_ex (zt_T n) 118 25 [(40, 190)] [] s56)))) (fun w t' => v = 0 → w = 1 → zKE f a m' t')) := fun hw =>
      zl_pair (zl_bothN (zl_ofN (zz_step199 n hST1 hS1 hF1 hC1 hR hw)) (zz_partK n hF1 hS1.2.2.1 hw (zST_tb hST1) (zi_rd hST1.2.1 zq_190 zb_28_9) hA1)) gon
    have gA : t 190 49 = 0 → zl (zu_bd (zu_call (zt_T n) 202 [(24, 47)] m1) (fun v122 s122 => (if v122 = 0 then (zu_ex (zt_T n) 198 45 [(24, 47), (0, a), (0, i + 1), (0, v122)] [] s122) else (some (v122, s122))))) (fun v m' => zl (zu_bd (zu_call (zt_T n) 117 [(40, 190)] t) (fun v66 s66 => (if v66 ≠ 0 then (zu_ex (zt_T n) 118 25 [(40, 190)] [] s66) else (zu_b 0 (some (0, s66)))))) (fun w t' => v = 0 → w = 1 → zKE f a m' t')) := fun hw => by
      refine zl_pair (zl_bothN (zl_ofN (zz_step202 n hST1 hTV hS1 hF1 hC1 hR hw)) (zz_behindK n hF1 hC1.2.2.2 hS1.2.2.1 (zST_tb hST1) hA1)) (fun v m' w t' h => ?_)
      have := gon v m' w t' h
      by_cases hw0 : w = 0
      · rw [if_pos hw0] at this
        rw [if_neg (show ¬ w ≠ 0 from fun q => q hw0)]
        exact this
      · rw [if_neg hw0] at this
        rw [if_pos (show w ≠ 0 from hw0)]
        exact this
    rw [zc_278, zu_bds, e6, e4]
    by_cases hw : t 190 49 = 0
    · rw [if_neg (show ¬ t 190 49 ≠ 0 from fun q => q hw), if_pos hw]
      by_cases ho : t 190 47 = 0
      · by_cases h59 : t 190 8 = 4 ∧ t 190 9 = 59
        · have hk4 : m1 45 4 = 4 ∧ m1 45 5 = 0 := by
            have hK := hS1.2.2.1
            rw [h59.1, h59.2] at hK
            exact zKV_s0 hK
          rw [if_pos h59, if_pos hk4, if_neg (show ¬ (1 : Int) = 0 by decide), if_neg (show ¬ (1 : Int) = 0 by decide), if_neg (show ¬ t 190 47 ≠ 0 from fun q => q ho), if_pos (show t 190 47 ≤ 0 from Int.le_of_eq ho), if_neg (show ¬ t 190 49 ≠ 0 from fun q => q hw)]
          exact zl_mono (zz_sumEndK n ha hST1 hF1 hC1 hR hw ho hA1) (fun v m' h => zl_mono h (fun w t' h _ _ => h))
        · have hk4 : ¬ (m1 45 4 = 4 ∧ m1 45 5 = 0) := fun q => by
            have hK := hS1.2.2.1
            rw [q.1, q.2] at hK
            exact h59 (zKV_s1 hK)
          rw [if_neg h59, if_neg hk4, if_pos (show (0 : Int) = 0 from rfl), if_neg (show ¬ t 190 47 ≠ 0 from fun q => q ho), if_pos (show (0 : Int) = 0 from rfl)]
          repeat rw [if_pos hw]
          exact gA hw
      · rw [if_pos (show t 190 47 ≠ 0 from ho), if_neg (show ¬ t 190 49 ≠ 0 from fun q => q hw), if_neg (show ¬ t 190 47 ≤ 0 from fun q => ho (Int.le_antisymm q n47)), ite_self]
        repeat rw [if_pos hw]
        exact gA hw
    · rw [if_pos (show t 190 49 ≠ 0 from hw), if_neg hw, if_pos (show t 190 49 ≠ 0 from hw), ite_self]
      repeat rw [if_neg hw]
      exact gB hw

/-! a LINE keeps what is said of the laws told -/
def zWLc : List (Nat × Nat) := [(3, 5), (3, 6), (3, 7), (3, 8), (3, 9), (3, 10), (3, 11), (4, 1), (4, 2), (4, 3), (4, 4), (4, 5), (4, 6), (6, 3), (6, 5), (6, 11), (6, 12), (7, 1), (7, 2), (7, 3), (7, 4), (8, 1), (8, 2), (8, 3), (8, 4), (8, 5), (8, 6), (8, 7), (9, 4), (9, 5), (9, 6), (9, 7), (30, 0), (31, 0), (32, 0)]
def zWLt : List (Nat × Nat) := [(28, 5), (28, 6), (28, 8), (28, 9), (28, 10), (28, 11), (28, 12), (28, 18), (28, 19), (28, 20), (28, 21), (28, 23), (28, 24), (28, 43), (102, 0), (103, 0), (104, 0), (105, 0), (106, 0), (107, 0), (108, 0), (109, 0), (110, 0), (111, 0), (112, 0), (113, 0)]
theorem zz_tlC (n : Nat) {m m' : zu_m} {v : Int} (hI : zi_I m') (hf : zfr zWLc m m') : zl (if v = 0 then (zu_b 0 (some (0, m'))) else (zu_bd (zu_call (zt_T n) 259 [(7, 5)] m') (fun v76 s76 => (if v76 = 0 then (zu_b 0 (some (0, s76))) else (zu_b 1 (some (1, s76))))))) (fun v2 m2 => v2 = 1 → zfr zWLc m m2) := by
  refine zl_ite (fun _ => zl_b (zl_some (fun _ => hf))) (fun _ => ?_)
  refine zl_bd (zl_mono (zl_of (zk_259 n hI zq_5)) (fun v3 m3 hs => ?_))
  have f3 : zfr zWLc m m3 := zfr_tr hf hs.2.1 rfl
  exact zl_ite (fun _ => zl_b (zl_some (fun _ => f3))) (fun _ => zl_b (zl_some (fun _ => f3)))
theorem zz_tlT (n : Nat) {t t' : zu_m} {w : Int} (hI : zi_I t') (hNS : zR_NS t') (hWD : zR_WD t') (hf : zfr zWLt t t') : zl (if w ≠ 0 then zrE n t' else (zu_b 0 (some (0, t')))) (fun w2 t2 => w2 = 1 → zfr zWLt t t2) := by
  refine zl_ite (fun _ => ?_) (fun _ => zl_b (zl_some (fun h => absurd h (by decide))))
  unfold zrE
  rw [zc_93, zu_bds]
  refine zl_ite (fun _ => ?_) (fun _ => ?_)
  · refine zl_bd (zl_mono (zl_of (zk_89 n hI zq_190 hNS hWD)) (fun v3 t3 hs => ?_))
    exact zl_b (zl_some (fun _ => zfr_tr hf hs.2.1 rfl))
  · rw [zc_85, zu_bds, zu_b0]
    exact zl_some (fun h => absurd h (by decide))
theorem zz_258f (n : Nat) {m : zu_m} (hI : zi_I m) (hC : zCC m) (h5 : m 45 5 ≠ 11) : zl (zu_call (zt_T n) 258 [(7, 5)] m) (fun v m' => v = 1 → zfr zWLc m m') := by
  obtain ⟨c1, c2, c3, c4, c5, c6⟩ := hC
  refine zl_eq (zu_call_at (zt_T n) (zm_258 n) (zdp_258 n) _ _ _ _ _ rfl (zr_258_0 n _ _ 5 m)) ?_
  rw [zc_279 n m (zu_w32_id (by decide) (by decide)), zu_bds]
  by_cases hk : m 45 4 = 1 ∧ 0 ≤ m 45 5 ∧ m 45 5 < 0 + 12
  · rw [if_pos hk, if_pos (show (1 : Int) ≠ 0 by decide)]
    refine zl_ite (fun _ => zl_bd (zl_mono (zl_of (zk_264 n hI zq_5 c2 c3 c4)) (fun v m' hs => zz_tlC n hs.1 (zfr_tr (zfr_rf zWLc m) hs.2.1 rfl)))) (fun e0 => ?_)
    refine zl_ite (fun e4 => zl_bd (zl_mono (zl_of (zk_266 n hI zq_5 ⟨Int.le_of_eq hk.1.symm, Int.le_of_eq hk.1⟩ ⟨Int.le_of_eq e4.symm, Int.le_of_eq e4⟩ c2)) (fun v m' hs => zz_tlC n hs.1 (zfr_tr (zfr_rf zWLc m) hs.2.1 rfl)))) (fun e4 => ?_)
    refine zl_ite (fun e4 => zl_bd (zl_mono (zl_of (zk_267 n hI zq_5 ⟨Int.le_of_eq hk.1.symm, Int.le_of_eq hk.1⟩ ⟨Int.le_of_eq e4.symm, Int.le_of_eq e4⟩ c2 c3 c4)) (fun v m' hs => zz_tlC n hs.1 (zfr_tr (zfr_rf zWLc m) hs.2.1 rfl)))) (fun e5 => ?_)
    refine zl_ite (fun e => absurd e h5) (fun _ => ?_)
    refine zl_ite (fun e => zl_bd (zl_mono (zl_of (zk_268 n hI zq_5 ⟨by omega, by omega⟩)) (fun v m' hs => zz_tlC n hs.1 (zfr_tr (zfr_rf zWLc m) hs.2.1 rfl)))) (fun e => ?_)
    exact zl_bd (zl_mono (zl_of (zk_265 n hI zq_5 ⟨by omega, by omega⟩ c2)) (fun v m' hs => zz_tlC n hs.1 (zfr_tr (zfr_rf zWLc m) hs.2.1 rfl)))
  · rw [if_neg hk, if_neg (show ¬ (0 : Int) ≠ 0 by decide), zc_257, zu_bds, zu_b0]
    exact zl_some (fun h => absurd h (by decide))
theorem zz_105f (n : Nat) {t : zu_m} (hI : zi_I t) (hNS : zR_NS t) (hWD : zR_WD t) (hR : zCR t) (h9 : t 190 9 ≠ 11) (hp0 : t 190 8 = 1 → t 190 9 ≤ 11 → 0 ≤ t 190 9) : zl (zu_call (zt_T n) 105 [(40, 190)] t) (fun w t' => w = 1 → zfr zWLt t t') := by
  obtain ⟨r1, r2, r3, r4, r5, r6, r7, r8⟩ := hR
  refine zl_eq (zu_call_at (zt_T n) (zm_105 n) (zdp_105 n) _ _ _ _ _ rfl (zr_105_0 n _ _ 190 t)) ?_
  have hw1 : ∀ x : Int, 0 ≤ x → x ≤ 11 → zu_w32 (zu_w32 (x - 1) + 1) = x := fun x h0 h1 => by
    rw [zu_w32_id (z := x - 1) (by omega) (by omega), zu_w32_id (by omega) (by omega)]
    omega
  refine zl_ite (fun _ => ?_) (fun e8 => ?_)
  · rw [zc_85, zu_bds, zu_b0]
    exact zl_some (fun h => absurd h (by decide))
  have e8 : t 190 8 = 1 := Decidable.not_not.mp e8
  have E8 : 1 ≤ t 190 8 ∧ t 190 8 ≤ 1 := ⟨Int.le_of_eq e8.symm, Int.le_of_eq e8⟩
  have b9 := (zi_rd hI zq_190 zb_28_9)
  refine zl_ite (fun l11 => ?_) (fun _ => ?_)
  · refine zl_ite (fun n0 => ?_) (fun n0 => ?_)
    · refine zl_ite (fun g3 => ?_) (fun g3 => ?_)
      · refine zl_ite (fun n4 => ?_) (fun n4 => ?_)
        · refine zl_ite (fun n5 => ?_) (fun n5 => ?_)
          · refine zl_ite (fun n11 => ?_) (fun n11 => absurd (Decidable.not_not.mp n11) h9)
            exact zl_bd (zl_mono (zl_of (zk_104 n hI zq_190 ⟨by omega, by omega⟩ r4 hNS r6 hWD)) (fun v t' hs => zz_tlT n hs.1 hs.2.2.2.1 hs.2.2.2.2.2.1 (zfr_tr (zfr_rf zWLt t) hs.2.1 rfl)))
          · exact zl_bd (zl_mono (zl_of (zk_102 n hI zq_190 E8 ⟨by omega, by omega⟩ r1 r2 r4 hNS r6 hWD)) (fun v t' hs => zz_tlT n hs.1 hs.2.2.2.2.2.1 hs.2.2.2.2.2.2.2.1 (zfr_tr (zfr_rf zWLt t) hs.2.1 rfl)))
        · exact zl_bd (zl_mono (zl_of (zk_101 n hI zq_190 E8 ⟨by omega, by omega⟩ r2 r4 hNS r6 hWD)) (fun v t' hs => zz_tlT n hs.1 hs.2.2.2.2.1 hs.2.2.2.2.2.2.1 (zfr_tr (zfr_rf zWLt t) hs.2.1 rfl)))
      · by_cases l0 : 0 ≤ t 190 9
        · rw [hw1 _ l0 l11]
          exact zl_bd (zl_mono (zl_of (zk_100 n hI zq_190 ⟨by omega, by omega⟩ E8 ⟨by omega, by omega⟩ r2 r4 hNS r6 hWD)) (fun v t' hs => zz_tlT n hs.1 hs.2.2.2.2.1 hs.2.2.2.2.2.2.1 (zfr_tr (zfr_rf zWLt t) hs.2.1 rfl)))
        · exact absurd (hp0 e8 l11) l0
    · exact zl_bd (zl_mono (zl_of (zk_99 n hI zq_190 r2 r4 hNS r6 hWD)) (fun v t' hs => zz_tlT n hs.1 hs.2.2.2.2.1 hs.2.2.2.2.2.2.1 (zfr_tr (zfr_rf zWLt t) hs.2.1 rfl)))
  · rw [zc_85, zu_bds, zu_b0]
    exact zl_some (fun h => absurd h (by decide))
theorem zp_lineK (n : Nat) {m t : zu_m} (h : zST m t) (hS : zSYN m t) (hD : zRD m t) (hC : zCC m) (hR : zCR t) (hN : zDN m t) : zl (zu_call (zt_T n) 258 [(7, 5)] m) (fun v m' => zl (zu_call (zt_T n) 105 [(40, 190)] t) (fun w t' => v = 1 → w = 1 → zDN m' t')) := by
  have hw := zKV_w hS.2.2.1
  have no : ∀ {x : Option zu_R}, zl x (fun w _ => w = 1 → False) → ∀ v m', zl x (fun w t' => v = 1 → w = 1 → zDN m' t') := fun hx v m' => zl_mono hx (fun w t' q _ e => (q e).elim)
  by_cases h5 : m 45 5 = 11 ∧ m 45 4 = 1
  · obtain ⟨h5, h4⟩ := h5
    obtain ⟨k1, k2⟩ := hw.mp ⟨h4, by omega, by omega⟩
    have hK := hS.2.2.1
    rw [h4, k1] at hK
    have e9 : t 190 9 = 11 := ((zKV_wv hK k2).1).symm.trans h5
    refine zl_eq (zu_call_at (zt_T n) (zm_258 n) (zdp_258 n) _ _ _ _ _ rfl (zr_258_0 n _ _ 5 m)) ?_
    rw [zu_call_at (zt_T n) (zm_105 n) (zdp_105 n) _ _ _ _ _ rfl (zr_105_0 n _ _ 190 t), zc_279 n m (zu_w32_id (by decide) (by decide)), zu_bds]
    rw [if_pos (show m 45 4 = 1 ∧ 0 ≤ m 45 5 ∧ m 45 5 < 0 + 12 by omega), if_pos (show (1 : Int) ≠ 0 by decide), if_neg (show ¬ t 190 8 ≠ 1 from fun q => q k1), if_pos k2, h5, e9]
    rw [if_neg (show ¬ (11 : Int) = 0 by decide), if_neg (show ¬ (11 : Int) = 4 by decide), if_neg (show ¬ (11 : Int) = 5 by decide), if_pos (show (11 : Int) = 11 from rfl), if_pos (show (11 : Int) ≠ 0 by decide), if_pos (show (3 : Int) < 11 by decide), if_pos (show (11 : Int) ≠ 4 by decide), if_pos (show (11 : Int) ≠ 5 by decide), if_neg (show ¬ (11 : Int) ≠ 11 by decide)]
    obtain ⟨c1, c2, c3, c4, c5, c6⟩ := hC
    obtain ⟨r1, r2, r3, r4, r5, r6, r7, r8⟩ := hR
    refine zl_pair (zl_bothN (zl_ofN (zp_law n h hS hD c6 c1 c5 r3 r7)) (zp_lawK n h hS hD c6 c1 c5 r3 r7 hN)) (fun v m' w t' hp => ?_)
    obtain ⟨hp, hK⟩ := hp
    rcases hp with ⟨rfl, rfl, hF⟩ | ⟨rfl, rfl, h1, h2, h3, -, -⟩
    · rw [zu_b0]
      refine zl_some (fun _ _ _ h0 => absurd h0 (by decide))
    · rw [zu_b1, if_pos (show (1 : Int) ≠ 0 by decide), zc_93, zu_bds, if_pos h3, if_pos (show (1 : Int) ≠ 0 by decide)]
      refine zl_some (zl_bd (zl_mono (zl_of (zp_tkn n h1 h2.1)) (fun _ t3 hs => ?_)))
      exact zl_b (zl_some (fun _ _ => zDN_fr (hK rfl rfl) (zfr_rf [(3, 8)] m') hs.2.1 rfl rfl))
  · by_cases h4 : m 45 4 = 1
    · have h5 : m 45 5 ≠ 11 := fun q => h5 ⟨q, h4⟩
      have h9 : t 190 8 = 1 → t 190 9 ≠ 11 := fun k1 q => by
        have hK := hS.2.2.1
        rw [h4, k1] at hK
        exact h5 ((zKV_wv hK (Int.le_of_eq q)).1.trans q)
      by_cases h8 : t 190 8 = 1
      · intro v m' e w t' e2 q1 q2
        exact zDN_fr hN (zz_258f n h.1 hC h5 v m' e q1) (zz_105f n h.2.1 h.2.2.1 h.2.2.2.1 hR (h9 h8) (fun k1 k2 => by have hK := hS.2.2.1; rw [h4, k1] at hK; exact (zKV_wv hK k2).2) w t' e2 q2) rfl rfl
      · refine fun v m' _ => zl_eq (zu_call_at (zt_T n) (zm_105 n) (zdp_105 n) _ _ _ _ _ rfl (zr_105_0 n _ _ 190 t)) ?_
        rw [if_pos (show t 190 8 ≠ 1 from h8), zc_85, zu_bds, zu_b0]
        exact zl_some (fun _ h0 => absurd h0 (by decide))
    · refine zl_eq (zu_call_at (zt_T n) (zm_258 n) (zdp_258 n) _ _ _ _ _ rfl (zr_258_0 n _ _ 5 m)) ?_
      rw [zc_279 n m (zu_w32_id (by decide) (by decide)), zu_bds, if_neg (show ¬ (m 45 4 = 1 ∧ 0 ≤ m 45 5 ∧ m 45 5 < 0 + 12) from fun q => h4 q.1), if_neg (show ¬ (0 : Int) ≠ 0 by decide), zc_257, zu_bds, zu_b0]
      exact zl_some (fun _ _ _ h0 => absurd h0 (by decide))
theorem zu_bd_s {x : Option zu_R} {i w : Int} {t : zu_m} (e : zu_bd x (fun _ s => some (i, s)) = some (w, t)) : ∃ q, x = some (q, t) := by
  cases x with
  | none => cases e
  | some r =>
    cases e
    exact ⟨r.1, rfl⟩
/-- the loop of lines -/
theorem zz_readLoopK (n : Nat) {a b : Int} : ∀ (k : Nat) (i : Int) (m t : zu_m), zST m t → zLAG m t → zRD m t → zCC m → zCR t → zDN m t → 0 ≤ i → i ≤ t 190 7 → 700 - i < (k : Int) → zl (zu_ex (zt_T n) 12 51 [(7, 5), (0, a), (0, i), (0, i)] [] m) (fun v m' => zl (zu_ex (zt_T n) 106 55 [(40, 190), (0, b), (0, i)] [] t) (fun w t' => w ≠ -1 → ∃ t1 q, zST m' t1 ∧ zRD m' t1 ∧ zCC m' ∧ zCR t1 ∧ zDN m' t1 ∧ zu_call (zt_T n) 31 [(40, 190)] t1 = some (q, t'))) := by
  intro k
  induction k with
  | zero =>
    intro i m t hST _ _ _ _ _ _ i1 hk
    have := (zi_rd hST.2.1 zq_190 zb_28_7).2
    exfalso
    clear hST
    omega
  | succ k ih =>
    intro i m t hST hLG hD hC hR hN i0 i1 hk
    have i700 : i ≤ 700 := Int.le_trans i1 (zi_rd hST.2.1 zq_190 zb_28_7).2
    refine zl_eq (zu_rega_at (zt_T n) (zm_12 n) (zdp_12 n) _ _ _ _ _ _ (zr_12_51 n _ _ 5 a i i m)) ?_
    have href : zu_ex (zt_T n) 106 55 [(40, 190), (0, b), (0, i)] [] t = _ := zu_rega_at (zt_T n) (zm_106 n) (zdp_106 n) _ _ _ _ _ _ (zr_106_55 n _ _ 190 b i t)
    rw [if_neg (Int.not_lt.mpr i700), href]
    refine zl_bd (zl_mono (zl_of (zp_adv n hST hLG)) (fun _ m1 hs => ?_))
    obtain ⟨hST1, hf1, hS1, hle⟩ := hs
    have hC1 := zCC_a hC hf1
    have hD1 : zRD m1 t := zRD_ab hD hf1 (zfr_rf zWB t)
    have hN1 : zDN m1 t := zDN_fr hN hf1 (zfr_rf zWB t) rfl rfl
    have hw1 : zu_w32 (i + 1) = i + 1 := zW19 i0 (Int.lt_of_le_of_lt i700 (by decide))
    by_cases h0 : m1 45 4 = 0
    · have hK := hS1.2.2.1
      rw [h0] at hK
      rw [if_pos h0, if_pos (zKV_k0 hK)]
      have b5 := zi_rd hST1.1 zq_6 zb_4_5
      generalize hm2 : zu_up m1 19 9 (m1 6 5) = m2
      have hI2 := zi_up hm2 hST1.1 zq_19 zb_6_9 (Int.le_trans (by decide) b5.1) (Int.le_trans b5.2 (by decide))
      have hf2 : zfr [(6, 10)] m1 m2 := zfr_up hm2 (zfr_rf _ _) zq_19 rfl
      refine zl_some ?_
      intro w t2 e
      obtain ⟨q, hx⟩ := zu_bd_s e
      obtain ⟨d1, d2, d3, d4, d5, d6, d7⟩ := hD1
      obtain ⟨h1, h2, h3, h4, h5, h6⟩ := hC1
      exact fun _ => ⟨t, q, zST_l hST1 hI2 hf2 rfl, ⟨zDw_fr d1 hf2 (zfr_rf zWB t) rfl rfl, zDo_fr d2 hf2 (zfr_rf zWB t) rfl rfl, zDk_fr d3 hf2 (zfr_rf zWB t) rfl rfl, zDe_fr d4 hf2 (zfr_rf zWB t) rfl rfl, zDc_fr d5 hf2 (zfr_rf zWB t) rfl rfl, zDs_fr d6 hf2 (zfr_rf zWB t) rfl rfl, zDl_fr d7 hf2 (zfr_rf zWB t) rfl rfl⟩, ⟨zR_BN_fr (zdis_fr hf2 rfl) h1, zR_CT_fr (zdis_fr hf2 rfl) h2, zR_E19_fr (zdis_fr hf2 rfl) h3, zR_G6_fr (zdis_fr hf2 rfl) h4, zR_K10_fr (zdis_fr hf2 rfl) h5, zR_BX_fr hf2 rfl h6⟩, hR, zDN_fr hN1 hf2 (zfr_rf [(28, 8)] t) rfl rfl, hx⟩
    · have h8 : t 190 8 ≠ 0 := fun q => by
        have hK := hS1.2.2.1
        rw [q] at hK
        exact h0 (zKV_k1 hK)
      rw [if_neg h0, if_neg h8, hw1]
      refine zl_pair (zl_bothN (zl_ofN (zp_lineC n hST1 hS1 hD1 hC1 hR h0 h8)) (zp_lineK n hST1 hS1 hD1 hC1 hR hN1)) (fun v m2 w t2 hs => ?_)
      obtain ⟨⟨hI2, hs⟩, hNN⟩ := hs
      rcases hs with ⟨e1, e2, e3⟩ | ⟨e1, e2, p1, p2, p3, p4, p5, p6, p7⟩
      · rw [e1, e2, if_neg (show ¬ (0 : Int) ≠ 0 by decide), if_neg (show ¬ (0 : Int) ≠ 0 by decide)]
        exact zl_some (zl_some (fun q => absurd rfl q))
      · rw [e1, e2, if_pos (show (1 : Int) ≠ 0 by decide), if_pos (show (1 : Int) ≠ 0 by decide)]
        exact ih (i + 1) m2 t2 p1 p2 p3 p5 p6 (hNN e1 e2) (Int.le_trans i0 (Int.le_of_lt (Int.lt_succ i))) (zW22 i1 p7) (zW13 hk)

/-! text: the loop of lines, side by side -/
def zCC (m : zu_m) : Prop := zR_BN m ∧ (m 5 6 = 0 → m 19 4 = 0) ∧ zE m 19 6 ∧ (m 6 2 = m 6 0 * m 6 1) ∧ zR_K10 m ∧ zR_BX m
def zCR (t : zu_m) : Prop := zR_C0 t ∧ zR_CR t ∧ zR_KN t ∧ zR_LR t ∧ zR_LT t ∧ zR_TR t ∧ t 190 21 = t 190 48 ∧ t 190 4 = 0
theorem zCC_a {m m' : zu_m} (h : zCC m) (hf : zfr zWA m m') : zCC m' := by
  obtain ⟨h1, h2, h3, h4, h5, h6⟩ := h
  exact ⟨zR_BN_fr (zdis_fr hf rfl) h1, zR_CT_fr (zdis_fr hf rfl) h2, zR_E19_fr (zdis_fr hf rfl) h3, zR_G6_fr (zdis_fr hf rfl) h4, zR_K10_fr (zdis_fr hf rfl) h5, zR_BX_fr hf rfl h6⟩
theorem zKV_k1 {k v w : Int} (h : zKV k v 0 w) : k = 0 := by
  unfold zKV at h
  omega
def zLC (m t : zu_m) (v : Int) (m' : zu_m) (w : Int) (t' : zu_m) : Prop := (v = 0 ∧ w = 0 ∧ zFLT m' t') ∨ (v = 1 ∧ w = 1 ∧ zST m' t' ∧ zLAG m' t' ∧ zRD m' t' ∧ zKF m t m' t' ∧ zCC m' ∧ zCR t' ∧ t 190 7 < t' 190 7)
theorem zW21 {a b : Int} (h1 : 0 ≤ a) (h2 : a ≠ 0) : 1 ≤ a := by omega
theorem zp_lineC (n : Nat) {m t : zu_m} (h : zST m t) (hS : zSYN m t) (hD : zRD m t) (hC : zCC m) (hR : zCR t) (hk : m 45 4 ≠ 0) (hk' : t 190 8 ≠ 0) : zw (zu_call (zt_T n) 258 [(7, 5)] m) (fun v m' => zw (zu_call (zt_T n) 105 [(40, 190)] t) (fun w t' => zi_I m' ∧ zLC m t v m' w t')) := by
  have h0 := h
  obtain ⟨a1, a2, a3, a4, -⟩ := h0
  obtain ⟨c1, c2, c3, c4, c5, c6⟩ := hC
  obtain ⟨r1, r2, r3, r4, r5, r6, r7, r8⟩ := hR
  have b4 := zi_rd a1 zq_45 zb_9_4
  have b8 := zi_rd a2 zq_190 zb_28_8
  have hl : zl (zu_call (zt_T n) 258 [(7, 5)] m) (fun v m' => zl (zu_call (zt_T n) 105 [(40, 190)] t) (fun w t' => zLN m t v m' w t')) := zl_mono (zl_of (zp_line n h hS hD c6 c1 c5 r3 r7)) (fun v m' h => zl_of h)
  refine zw_mono2 (zw_zl2 (zk_258 n a1 zq_5 ⟨zW21 (b := 0) b4.1 hk, b4.2⟩ c1 c2 c3 c4 c5) (zk_105 n a2 zq_190 ⟨zW21 (b := 0) b8.1 hk', b8.2⟩ r7 r8 r1 r2 r3 r4 r5 a3 r6 a4) hl) (fun v m' w t' hs => ?_)
  obtain ⟨⟨i1, f1, x1, x2, x3, x4, x5, -⟩, ⟨i2, f2, y1, y2, y3, y4, y5, y6, y7, y8, -, z1, z2, z3⟩, hQ⟩ := hs
  refine ⟨i1, ?_⟩
  rcases hQ with h | ⟨p1, p2, p3, p4, p5, p6⟩
  · exact Or.inl h
  · exact Or.inr ⟨p1, p2, p3, p4, p5, p6, ⟨x1, x2, x3, x4, x5, zR_BX_fr f1 rfl c6⟩, ⟨y1, y2, y3, y4, y5, y7, z2 p2, (z3 p2).trans r8⟩, z1 p2⟩
/-- what comes of the lines of a text -/
def zTX (n : Nat) (v : Int) (m' : zu_m) (w : Int) (t' : zu_m) : Prop := (w = -1 ∧ zFLT m' t') ∨ (w = v ∧ 0 ≤ v ∧ m' 5 9 = 0 ∧ m' 5 10 = -1 ∧ t' 190 4 = 0 ∧ t' 190 5 = -1 ∧ ∃ t1 q, zST m' t1 ∧ zRD m' t1 ∧ zCC m' ∧ zCR t1 ∧ zu_call (zt_T n) 31 [(40, 190)] t1 = some (q, t'))
theorem zW22 {i p q : Int} (h1 : i ≤ p) (h2 : p < q) : i + 1 ≤ q := by omega
theorem zz_readLoop (n : Nat) {a b : Int} : ∀ (k : Nat) (i : Int) (m t : zu_m), zST m t → zLAG m t → zRD m t → zCC m → zCR t → 0 ≤ i → i ≤ t 190 7 → m 5 9 = 0 → m 5 10 = -1 → t 190 5 = -1 → 700 - i < (k : Int) → zw (zu_ex (zt_T n) 12 51 [(7, 5), (0, a), (0, i), (0, i)] [] m) (fun v m' => zw (zu_ex (zt_T n) 106 55 [(40, 190), (0, b), (0, i)] [] t) (fun w t' => zTX n v m' w t')) := by
  intro k
  induction k with
  | zero =>
    intro i m t hST _ _ _ _ _ i1 _ _ _ hk
    have := (zi_rd hST.2.1 zq_190 zb_28_7).2
    exfalso
    clear hST
    omega
  | succ k ih =>
    intro i m t hST hLG hD hC hR i0 i1 f9 f10 f5 hk
    have i700 : i ≤ 700 := Int.le_trans i1 (zi_rd hST.2.1 zq_190 zb_28_7).2
    refine zw_eq (zu_rega_at (zt_T n) (zm_12 n) (zdp_12 n) _ _ _ _ _ _ (zr_12_51 n _ _ 5 a i i m)) ?_
    have href : zu_ex (zt_T n) 106 55 [(40, 190), (0, b), (0, i)] [] t = _ := zu_rega_at (zt_T n) (zm_106 n) (zdp_106 n) _ _ _ _ _ _ (zr_106_55 n _ _ 190 b i t)
    rw [if_neg (Int.not_lt.mpr i700), href]
    refine zw_bd (zw_mono (zp_adv n hST hLG) (fun _ m1 hs => ?_))
    obtain ⟨hST1, hf1, hS1, hle⟩ := hs
    have hC1 := zCC_a hC hf1
    have hD1 : zRD m1 t := zRD_ab hD hf1 (zfr_rf zWB t)
    have g9 : m1 5 9 = 0 := (zfr_ap hf1 zq_5 rfl).trans f9
    have g10 : m1 5 10 = -1 := (zfr_ap hf1 zq_5 rfl).trans f10
    have hw1 : zu_w32 (i + 1) = i + 1 := zW19 i0 (Int.lt_of_le_of_lt i700 (by decide))
    by_cases h0 : m1 45 4 = 0
    · have hK := hS1.2.2.1
      rw [h0] at hK
      rw [if_pos h0, if_pos (zKV_k0 hK)]
      obtain ⟨r1, r2, r3, r4, r5, r6, r7, r8⟩ := hR
      have b5 := zi_rd hST1.1 zq_6 zb_4_5
      generalize hm2 : zu_up m1 19 9 (m1 6 5) = m2
      have hI2 := zi_up hm2 hST1.1 zq_19 zb_6_9 (Int.le_trans (by decide) b5.1) (Int.le_trans b5.2 (by decide))
      have hf2 : zfr [(6, 10)] m1 m2 := zfr_up hm2 (zfr_rf _ _) zq_19 rfl
      refine zw_some (zw_bd ?_)
      obtain ⟨q, t2, e, hI, hft, -⟩ := zk_31 n hST1.2.1 zq_190 r8 r2 r3 r4
      refine ⟨q, t2, e, ?_⟩
      obtain ⟨d1, d2, d3, d4, d5, d6, d7⟩ := hD1
      refine zw_some (Or.inr ⟨rfl, i0, (zfr_ap hf2 zq_5 rfl).trans g9, (zfr_ap hf2 zq_5 rfl).trans g10, (zfr_ap hft zq_190 rfl).trans r8, (zfr_ap hft zq_190 rfl).trans f5, t, q, zST_l hST1 hI2 hf2 rfl, ⟨zDw_fr d1 hf2 (zfr_rf zWB t) rfl rfl, zDo_fr d2 hf2 (zfr_rf zWB t) rfl rfl, zDk_fr d3 hf2 (zfr_rf zWB t) rfl rfl, zDe_fr d4 hf2 (zfr_rf zWB t) rfl rfl, zDc_fr d5 hf2 (zfr_rf zWB t) rfl rfl, zDs_fr d6 hf2 (zfr_rf zWB t) rfl rfl, zDl_fr d7 hf2 (zfr_rf zWB t) rfl rfl⟩, ?_, ⟨r1, r2, r3, r4, r5, r6, r7, r8⟩, e⟩)
      obtain ⟨h1, h2, h3, h4, h5, h6⟩ := hC1
      exact ⟨zR_BN_fr (zdis_fr hf2 rfl) h1, zR_CT_fr (zdis_fr hf2 rfl) h2, zR_E19_fr (zdis_fr hf2 rfl) h3, zR_G6_fr (zdis_fr hf2 rfl) h4, zR_K10_fr (zdis_fr hf2 rfl) h5, zR_BX_fr hf2 rfl h6⟩
    · have h8 : t 190 8 ≠ 0 := fun q => by
        have hK := hS1.2.2.1
        rw [q] at hK
        exact h0 (zKV_k1 hK)
      rw [if_neg h0, if_neg h8, hw1]
      refine zw_pair (zp_lineC n hST1 hS1 hD1 hC1 hR h0 h8) (fun v m2 w t2 hs => ?_)
      obtain ⟨hI2, hs⟩ := hs
      rcases hs with ⟨e1, e2, e3⟩ | ⟨e1, e2, p1, p2, p3, p4, p5, p6, p7⟩
      · rw [e1, e2, if_neg (show ¬ (0 : Int) ≠ 0 by decide), if_neg (show ¬ (0 : Int) ≠ 0 by decide)]
        refine zw_some (zw_some (Or.inl ⟨rfl, ?_, ?_, ?_⟩))
        · rw [zu_up_ne (Or.inl (by decide))]; exact e3.1
        · rw [zu_up_ne (Or.inl (by decide))]; exact e3.2.1
        · rw [zu_up_ne (Or.inl (by decide))]; exact e3.2.2
      · rw [e1, e2, if_pos (show (1 : Int) ≠ 0 by decide), if_pos (show (1 : Int) ≠ 0 by decide)]
        exact ih (i + 1) m2 t2 p1 p2 p3 p5 p6 (Int.le_trans i0 (Int.le_of_lt (Int.lt_succ i))) (zW22 i1 p7) (p4.1.trans g9) (p4.2.1.trans g10) (p4.2.2.trans f5) (zW13 hk)

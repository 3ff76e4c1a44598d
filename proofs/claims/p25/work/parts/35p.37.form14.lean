/-! one step of the formula's loop, side by side -/
theorem zFM_l {W : List (Nat × Nat)} {m m' t : zu_m} (h : zFM m t) (hf : zfr W m m') (hd : zdis W [(10, 4), (10, 5), (10, 7), (10, 8), (47, 0), (48, 0), (5, 6)] = true) : zFM m' t := by
  have e := zdis_fr hf hd
  have e3 : m' 47 3 = m 47 3 := e 47 3 (by rw [zq_47]; rfl)
  have e4 : m' 47 4 = m 47 4 := e 47 4 (by rw [zq_47]; rfl)
  have e6 : m' 47 6 = m 47 6 := e 47 6 (by rw [zq_47]; rfl)
  have e7 : m' 47 7 = m 47 7 := e 47 7 (by rw [zq_47]; rfl)
  have e5 : m' 10 5 = m 10 5 := e 10 5 (by rw [zq_10]; rfl)
  have e48 : m' 48 = m 48 := funext (fun i => e 48 i (by rw [zq_48]; rfl))
  have e49 : m' 49 = m 49 := funext (fun i => e 49 i (by rw [zq_49]; rfl))
  unfold zFM zWM at h ⊢
  rw [e3, e4, e6, e7, e5, e48, e49]
  exact h
theorem zST_r2 {W : List (Nat × Nat)} {m t t' : zu_m} (h : zST m t) (hI : zi_I t') (hNS : zR_NS t') (hWD : zR_WD t') (hf : zfr W t t') (hd : zdis W [(100, 0), (28, 7), (101, 0)] = true) : zST m t' := by
  have e := zdis_fr hf hd
  obtain ⟨a1, a2, a3, a4, a5, a6, a7, a8⟩ := h
  have e191 : t' 191 = t 191 := funext (fun i => e 191 i (by rw [zq_191]; rfl))
  have e192 : ∀ i, t' 192 i = t 192 i := fun i => e 192 i (by rw [zq_192]; rfl)
  exact ⟨a1, hI, hNS, hWD, a5, fun i i0 i1 => by rw [e192]; exact a6 i i0 i1, a7.trans e191.symm, a8.trans (e 190 6 (by rw [zq_190]; rfl)).symm⟩
theorem zST_tb {m t : zu_m} (h : zST m t) : zTB t := by
  obtain ⟨a1, a2, a3, a4, a5, a6, a7, a8⟩ := h
  exact ⟨(zi_rd a2 zq_190 zb_28_7).1, a3 190 zq_190, (zi_rd a2 zq_190 zb_28_6).2, a6⟩
theorem zR_BX_fr {W : List (Nat × Nat)} {m m' : zu_m} (hf : zfr W m m') (hd : zdis W [(1, 0)] = true) (h : zR_BX m) : zR_BX m' := fun i i0 i1 => (zdis_fr hf hd 2 i (by rw [zq_2]; rfl)).trans (h i i0 i1)
def zKC (m : zu_m) : Prop := zR_BN m ∧ zR_K10 m ∧ m 47 4 ≤ zop m ∧ zR_BX m
def zKR (t : zu_m) : Prop := zR_KN t ∧ zR_TR t ∧ t 190 21 + znz t = t 190 48 ∧ t 190 45 = znz t + t 190 47 ∧ t 190 46 + t 190 49 = zbi t + 1 ∧ (t 190 49 = 0 → 1 ≤ t 190 21)
def zLP (m t : zu_m) : Prop := zST m t ∧ zLAG m t ∧ zFM m t ∧ zKC m ∧ zKR t
def zFE (v : Int) (m' : zu_m) (w : Int) (t' : zu_m) : Prop := v ≠ 0 ∧ w = 0 ∧ t' 190 4 = v ∧ m' 45 6 = t' 190 5
def zFS (m t : zu_m) (v : Int) (m' : zu_m) (w : Int) (t' : zu_m) : Prop := zFE v m' w t' ∨ (v = 0 ∧ w = 1 ∧ zLP m' t' ∧ m' 45 3 = m 45 3 ∧ t 190 8 ≠ 0 ∧ (∀ i, m' 13 i = m 13 i) ∧ t' 190 5 = t 190 5)
theorem zLAG_mk {m t m' t' : zu_m} (hS : zSYN m t) (e3 : m' 45 3 = m 45 3) (e191 : t' 191 = t 191) (e6 : t' 190 6 = t 190 6) (hN : zNX t t') : zLAG m' t' := by
  unfold zLAG
  rw [e191, e6, e3, hS.1]
  exact hN
theorem zz_step199 (n : Nat) {m t : zu_m} (hST : zST m t) (hS : zSYN m t) (hF : zFM m t) (hC : zKC m) (hR : zKR t) (hw : t 190 49 ≠ 0) : zw (zu_call (zt_T n) 199 [(24, 47)] m) (fun v m' => zw (zu_call (zt_T n) 116 [(40, 190)] t) (fun w t' => zFS m t v m' w t')) := by
  have hST0 := hST
  obtain ⟨a1, a2, a3, a4, -⟩ := hST
  obtain ⟨c1, c2, c3, c4⟩ := hC
  obtain ⟨k1, k2, k3, k4, k5, k6⟩ := hR
  have b49 : t 190 49 = 1 := by
    have := zi_rd a2 zq_190 zb_28_49
    clear k1 k2 k3 k4 k5 k6 c1 c2 c3 c4 hF hS
    omega
  have e6 : m 47 6 = 1 := hF.2.2.2.2.1.1.trans b49
  have x2 : t 190 46 = zbi t := by rw [b49] at k5; exact zW4 k5
  refine zw_mono2 (zw_zl2 (zk_199 n a1 zq_47 (by rw [e6]; decide) c3 c2) (zk_116 n a2 zq_190 (by rw [b49]; decide) k3 k4 x2 b49 k1 a3 k2 a4) (zz_part n hF hS.2.2.1 hw (zST_tb hST0) (zi_rd a2 zq_190 zb_28_9))) (fun v m' w t' hs => ?_)
  obtain ⟨⟨hI, hf, hK10, -, hop⟩, ⟨hIt, hft, hKN, hNS, hTR, hWD, -, -, r8, r1, r2, r3, r4, -, -⟩, hQ⟩ := hs
  rcases hQ with ⟨q1, q2, q3⟩ | ⟨q1, q2, q3, q4, q5⟩
  · refine Or.inl ⟨q1, q2, ?_, ?_⟩
    · rw [q3]; unfold zFR; simp [zu_up_app]
    · rw [q3]
      have : zFR t v 190 5 = t 190 10 := by unfold zFR; simp [zu_up_app]
      rw [this, ← hS.2.1]
      exact zfr_ap hf zq_45 rfl
  · refine Or.inr ⟨q1, q2, ⟨zST_r2 (zST_l hST0 hI hf rfl) hIt hNS hWD hft rfl, zLAG_mk hS (zfr_ap hf zq_45 rfl) (funext (fun i => zfr_ap hft zq_191 rfl)) (zfr_ap hft zq_190 rfl) q4, q3, ⟨zR_BN_fr (zdis_fr hf rfl) c1, hK10, hop q1, zR_BX_fr hf rfl c4⟩, ⟨hKN, hTR, r1 q2, r3 q2, r2 q2, r4 q2⟩⟩, zfr_ap hf zq_45 rfl, (r8 q2).1, fun i => zfr_ap hf zq_13 rfl, q5⟩
theorem zz_step202 (n : Nat) {m t : zu_m} (hST : zST m t) (hTV : zR_TV m) (hS : zSYN m t) (hF : zFM m t) (hC : zKC m) (hR : zKR t) (hw : t 190 49 = 0) : zw (zu_call (zt_T n) 202 [(24, 47)] m) (fun v m' => zw (zu_call (zt_T n) 117 [(40, 190)] t) (fun w t' => zFS m t v m' w t')) := by
  have hST0 := hST
  obtain ⟨a1, a2, a3, a4, -⟩ := hST
  obtain ⟨c1, c2, c3, c4⟩ := hC
  obtain ⟨k1, k2, k3, k4, k5, k6⟩ := hR
  have e6 : m 47 6 = 0 := hF.2.2.2.2.1.1.trans hw
  have x2 : t 190 46 = zbi t + 1 := by rw [hw, Int.add_zero] at k5; exact k5
  refine zw_mono2 (zw_zl2 (zk_202 n a1 zq_47 (by rw [e6]; decide) c3 c1 c2 hTV) (zk_117 n a2 zq_190 (by rw [hw]; decide) k3 k4 x2 hw (k6 hw) k1 a3 k2 a4) (zz_behind n hF c4 hS.2.2.1 hw (zST_tb hST0))) (fun v m' w t' hs => ?_)
  obtain ⟨⟨hI, hf, hBN, hK10, -, -, hop⟩, ⟨hIt, hft, hKN, hNS, hTR, hWD, -, -, r8, r1, r2, r3, r4, -, -⟩, hQ⟩ := hs
  rcases hQ with ⟨q1, q2, q3, q4⟩ | ⟨q1, q2, q3, q4, q5⟩
  · refine Or.inl ⟨q1, q2, q3, ?_⟩
    rw [q4, ← hS.2.1]
    exact zfr_ap hf zq_45 rfl
  · exact Or.inr ⟨q1, q2, ⟨zST_r2 (zST_l hST0 hI hf rfl) hIt hNS hWD hft rfl, zLAG_mk hS (zfr_ap hf zq_45 rfl) (funext (fun i => zfr_ap hft zq_191 rfl)) (zfr_ap hft zq_190 rfl) q4, q3, ⟨hBN, hK10, hop q1, zR_BX_fr hf rfl c4⟩, ⟨hKN, hTR, r1 q2, r3 q2, r2 q2, r4 q2⟩⟩, zfr_ap hf zq_45 rfl, (r8 q2).1, fun i => zfr_ap hf zq_13 rfl, q5⟩

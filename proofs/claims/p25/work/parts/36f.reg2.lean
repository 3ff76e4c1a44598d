/-- a method whose end is never reached -/
def zt_yq9 (y : xv_N) : xv_N := (y.1, (y.2.1.1, y.2.1.2.1, 9, y.2.1.2.2.2), y.2.2)
def zt_zq9 (z : xm_Z) : xm_Z := (z.1, z.2.1, some .boolean)
set_option maxRecDepth 100000 in
set_option maxHeartbeats 4000000 in
theorem zhr_5 (n : Nat) (c : zu_C) (ex : zu_I) (p0 p1 : Int) (σ : zu_m) : zu_rega (zt_T n) c ex 3 (zt_yq9 zt_mh) [5] 400 0 [(5, 3), (0, p0), (0, p1), (53, 233), (2, 0)] [] σ = ex 5 [(5, 3), (0, p0), (0, p1), (53, 233), (2, 0)] [(0, p1), (0, p0), (5, 3), (0, 0), (53, 233)] σ := Eq.trans (Eq.refl _) rfl
set_option maxRecDepth 100000 in
set_option maxHeartbeats 4000000 in
theorem zhr_8 (n : Nat) (c : zu_C) (ex : zu_I) (p0 p1 v : Int) (σ : zu_m) : zu_rega (zt_T n) c ex 3 zt_mh [] 400 8 [(5, 3), (0, p0), (0, p1), (53, 233), (2, 0)] [(0, v), (0, 0), (53, 233)] σ = (if 0 ≤ (0 : Int) ∧ (0 : Int) < 1 then (some (0, (zu_up σ 233 0 v))) else none) := Eq.trans (Eq.refl _) rfl
set_option maxRecDepth 100000 in
set_option maxHeartbeats 4000000 in
theorem zcr_0 (n : Nat) (c : zu_C) (ex : zu_I) (p0 p1 : Int) (σ : zu_m) : zu_rega (zt_T n) c ex 3 (zt_yq9 zt_m45) [11, 98] 400 0 [(5, 3), (0, p0), (0, p1)] [] σ = (zu_bd (c 244 [(8, 50), (0, p0)] σ) (fun v5 s5 => (if v5 ≠ 0 then (if p1 = 0 then (if 0 ≤ p0 ∧ p0 < 48 then none else none) else (if p1 = 1 then (zu_bd (c 231 [(27, 89), (0, p0)] s5) (fun v67 s67 => none)) else (if p1 = 2 then (if 0 ≤ p0 ∧ p0 < 48 then (if (s5 (89 + 3) p0) = 0 then none else none) else none) else (if p1 = 3 then (zu_bd (c 232 [(27, 89), (0, p0)] s5) (fun v94 s94 => none)) else (ex 98 [(5, 3), (0, p0), (0, p1)] [] s5))))) else (ex 11 [(5, 3), (0, p0), (0, p1)] [] s5)))) := Eq.trans (Eq.refl _) rfl
theorem zh_rA {L : Nat} {p0 p1 : Int} {σ : zu_m} (h : p0 < 0 ∨ σ 50 2 ≤ p0) : ∀ (K : Nat → List zu_v → List zu_v → zu_m → Prop), (∀ Lz, K 11 Lz [] σ) → zw (zu_rega (zt_T L) (zu_call (zt_T L)) (zt_kex K) 3 (zt_yq9 zt_m45) [11, 98] 400 0 [(5, 3), (0, p0), (0, p1)] [] σ) (fun v _ => v = 1) := fun K hK => by
  refine zw_eq (zcr_0 L _ _ p0 p1 σ) ?_
  refine zw_bd (zw_eq (zu_call_at (zt_T L) (zm_244 L) (zdp_244 L) _ _ _ _ _ rfl (zr_244_0 L _ _ 50 p0 σ)) ?_)
  refine zw_ite (fun h1 => ?_) (fun h1 => ?_)
  · refine zw_b (Or.inl rfl) ?_
    refine zw_some ?_
    refine zw_ite (fun h2 => absurd rfl h2) (fun _ => ?_)
    exact zw_kex (hK _)
  · refine zw_ite (fun h2 => ?_) (fun h2 => ?_)
    · refine zw_b (Or.inl rfl) ?_
      refine zw_some ?_
      refine zw_ite (fun h3 => absurd rfl h3) (fun _ => ?_)
      exact zw_kex (hK _)
    · exfalso; omega
theorem zh_rB {L : Nat} {p0 p1 : Int} {σ : zu_m} (h0 : 0 ≤ p0) (h1 : p0 < σ 50 2) (h : p1 < 0 ∨ 3 < p1) : ∀ (K : Nat → List zu_v → List zu_v → zu_m → Prop), (∀ Lz, K 98 Lz [] σ) → zw (zu_rega (zt_T L) (zu_call (zt_T L)) (zt_kex K) 3 (zt_yq9 zt_m45) [11, 98] 400 0 [(5, 3), (0, p0), (0, p1)] [] σ) (fun v _ => v = 1) := fun K hK => by
  refine zw_eq (zcr_0 L _ _ p0 p1 σ) ?_
  refine zw_bd (zw_eq (zu_call_at (zt_T L) (zm_244 L) (zdp_244 L) _ _ _ _ _ rfl (zr_244_0 L _ _ 50 p0 σ)) ?_)
  refine zw_ite (fun h2 => ?_) (fun h2 => ?_)
  · exfalso; omega
  refine zw_ite (fun h3 => ?_) (fun h3 => ?_)
  · exfalso; omega
  refine zw_b (Or.inr rfl) ?_
  refine zw_some ?_
  refine zw_ite (fun _ => ?_) (fun h4 => ?_)
  · refine zw_ite (fun h5 => ?_) (fun h5 => ?_)
    · exfalso; omega
    refine zw_ite (fun h6 => ?_) (fun h6 => ?_)
    · exfalso; omega
    refine zw_ite (fun h7 => ?_) (fun h7 => ?_)
    · exfalso; omega
    refine zw_ite (fun h8 => ?_) (fun h8 => ?_)
    · exfalso; omega
    exact zw_kex (hK _)
  · exact absurd (by decide) h4
theorem zh_norm {L : Nat} {p0 p1 : Int} {σ : zu_m} (hN : zt_INV σ) (h0 : 0 ≤ p0) (h1 : p0 < σ 50 2) (h2 : 0 ≤ p1 ∧ p1 ≤ 3) : ∃ (v : Int) (s : zu_m), zu_call (zt_T L) 45 [(5, 3), (0, p0), (0, p1)] σ = some (v, s) ∧ zt_INV (zu_up s 233 0 v) := by
  obtain ⟨hIm0, hRBNm0, hRC0m0, hRE115m0, hRE63m0, hRE89m0, hRG5m0, hRK10m0, hRK54m0, hRKNm0, hRLTm0, hRNSm0, hRRIm0, hRRUm0, hRSEm0, hRTEm0, hRUNm0, hRUWm0, hRWDm0, hRW1m0, hRW2m0, hRBYm0, hRTAm0, hRTPm0, hRLKm0, hT, hSm0⟩ := hN
  have hp := zi_rd hIm0 zq_50 zb_11_2
  obtain ⟨v, s, e, hI1, hf, hv⟩ := zk_45 L (a0 := 3) (a1 := p0) (a2 := p1) hIm0 zq_3 ⟨by omega, by omega⟩ ⟨by omega, by omega⟩ (by omega) 
  refine ⟨v, s, e, ?_⟩
  · generalize hm : zu_up s 233 0 v = m2
    have hI2 := zi_up hm hI1 zq_233 (zb_142 _) (by omega) (by omega)
    have hF1 : zfr [(142, 0)] σ s := zfr_tr (zfr_rf _ _) hf rfl
    have hF := zfr_up hm hF1 zq_233 rfl
    exact ⟨hI2, zR_BN_fr (zdis_fr hF rfl) hRBNm0, zR_C0_fr (zdis_fr hF rfl) hRC0m0, zR_E115_fr (zdis_fr hF rfl) hRE115m0, zR_E63_fr (zdis_fr hF rfl) hRE63m0, zR_E89_fr (zdis_fr hF rfl) hRE89m0, zR_G5_fr (zdis_fr hF rfl) hRG5m0, zR_K10_fr (zdis_fr hF rfl) hRK10m0, zR_K54_fr (zdis_fr hF rfl) hRK54m0, zR_KN_fr (zdis_fr hF rfl) hRKNm0, zR_LT_fr (zdis_fr hF rfl) hRLTm0, zR_NS_fr (zdis_fr hF rfl) hRNSm0, zR_RI_fr (zdis_fr hF rfl) hRRIm0, zR_RU_fr (zdis_fr hF rfl) hRRUm0, zR_SE_fr (zdis_fr hF rfl) hRSEm0, zR_TE_fr (zdis_fr hF rfl) hRTEm0, zR_UN_fr (zdis_fr hF rfl) hRUNm0, zR_UW_fr (zdis_fr hF rfl) hRUWm0, zR_WD_fr (zdis_fr hF rfl) hRWDm0, zR_W1_fr (zdis_fr hF rfl) hRW1m0, zR_W2_fr (zdis_fr hF rfl) hRW2m0, zR_BY_fr (zdis_fr hF rfl) hRBYm0, zR_TA_fr (zdis_fr hF rfl) hRTAm0, zR_TP_fr (zdis_fr hF rfl) hRTPm0, zR_LK_fr (zdis_fr hF rfl) hRLKm0, by rw [zfr_ap (p := 1) hF zq_3 rfl, zfr_ap (p := 1) hF zq_190 rfl]; exact hT, zt_Sf (W := []) (fun p => zfr_ap (p := p) hF zq_1 rfl) hSm0⟩

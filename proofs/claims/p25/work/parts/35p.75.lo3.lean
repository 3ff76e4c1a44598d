/-! text: on a FAULT the lower halves stay (the reference alone) -/
theorem zy_30w4 (n : Nat) : ∀ (k : Nat) (x : Int) (t : zu_m), 4 ≤ x → x ≤ 8 → 8 - x < (k : Int) → zl (zu_ex (zt_T n) 30 126 [(40, 190), (0, x)] [] t) (fun _ t' => zlw t t') := by
  intro k
  induction k with
  | zero => intro x t x0 x1 hk; exfalso; omega
  | succ k ih =>
    intro x t x0 x1 hk
    refine zl_eq (zu_rega_at (zt_T n) (zm_30 n) (zdp_30 n) _ _ _ _ _ _ (zr_30_126 n _ _ 190 x t)) ?_
    refine zl_ite (fun _ => zl_some (zlw_rf t)) (fun h => zl_b (zl_if (fun _ => ?_)))
    rw [zu_w32_id (z := x + 1) (by omega) (by omega)]
    exact zl_mono (ih (x + 1) _ (by omega) (by omega) (by omega)) (fun _ t' hs => zlw_tr (zlw_u rfl (Or.inr ⟨Or.inl rfl, x0⟩)) hs)
theorem zy_30w3 (n : Nat) : ∀ (k : Nat) (x : Int) (t : zu_m), 0 ≤ x → x ≤ 48 → 48 - x < (k : Int) → zl (zu_ex (zt_T n) 30 95 [(40, 190), (0, x)] [] t) (fun _ t' => zlw t t') := by
  intro k
  induction k with
  | zero => intro x t x0 x1 hk; exfalso; omega
  | succ k ih =>
    intro x t x0 x1 hk
    refine zl_eq (zu_rega_at (zt_T n) (zm_30 n) (zdp_30 n) _ _ _ _ _ _ (zr_30_95 n _ _ 190 x t)) ?_
    refine zl_ite (fun _ => zy_30w4 n 5 4 t (by decide) (by decide) (by decide)) (fun h => zl_if (fun _ => zl_b (zl_if (fun _ => ?_))))
    rw [zu_w32_id (z := x + 1) (by omega) (by omega), zu_w32_id (z := 48 + x) (by omega) (by omega)]
    exact zl_mono (ih (x + 1) _ (by omega) (by omega) (by omega)) (fun _ t' hs => zlw_tr (zlw_tr (zlw_u rfl (Or.inl ⟨rfl, by omega⟩)) (zlw_fr (zfr_up rfl (zfr_rf [(105, 0)] _) zq_196 rfl) rfl)) hs)
theorem zy_30w2 (n : Nat) : ∀ (k : Nat) (x : Int) (t : zu_m), 0 ≤ x → x ≤ 10 → 10 - x < (k : Int) → zl (zu_ex (zt_T n) 30 64 [(40, 190), (0, x)] [] t) (fun _ t' => zlw t t') := by
  intro k
  induction k with
  | zero => intro x t x0 x1 hk; exfalso; omega
  | succ k ih =>
    intro x t x0 x1 hk
    refine zl_eq (zu_rega_at (zt_T n) (zm_30 n) (zdp_30 n) _ _ _ _ _ _ (zr_30_64 n _ _ 190 x t)) ?_
    rw [zu_w32_id (z := x + 1) (by omega) (by omega)]
    refine zl_ite (fun _ => zy_30w3 n 49 0 t (by decide) (by decide) (by decide)) (fun h => zl_ite (fun _ => zl_if (fun _ => ?_)) (fun _ => zl_if (fun _ => ?_)))
    · exact zl_mono (ih (x + 1) _ (by omega) (by omega) (by omega)) (fun _ t' hs => zlw_tr (zlw_fr (zfr_up rfl (zfr_rf [(103, 0)] _) zq_194 rfl) rfl) hs)
    · exact zl_mono (ih (x + 1) _ (by omega) (by omega) (by omega)) (fun _ t' hs => zlw_tr (zlw_fr (zfr_up rfl (zfr_rf [(103, 0)] _) zq_194 rfl) rfl) hs)
theorem zy_30w1 (n : Nat) : ∀ (k : Nat) (x : Int) (t : zu_m), 0 ≤ x → x ≤ 6 → 6 - x < (k : Int) → zl (zu_ex (zt_T n) 30 43 [(40, 190), (0, x)] [] t) (fun _ t' => zlw t t') := by
  intro k
  induction k with
  | zero => intro x t x0 x1 hk; exfalso; omega
  | succ k ih =>
    intro x t x0 x1 hk
    refine zl_eq (zu_rega_at (zt_T n) (zm_30 n) (zdp_30 n) _ _ _ _ _ _ (zr_30_43 n _ _ 190 x t)) ?_
    refine zl_ite (fun _ => zy_30w2 n 11 5 t (by decide) (by decide) (by decide)) (fun h => zl_b (zl_if (fun _ => ?_)))
    rw [zu_w32_id (z := x + 1) (by omega) (by omega)]
    exact zl_mono (ih (x + 1) _ (by omega) (by omega) (by omega)) (fun _ t' hs => zlw_tr (zlw_fr (zfr_up rfl (zfr_rf [(102, 0)] _) zq_193 rfl) rfl) hs)
theorem zy_30w (n : Nat) (t : zu_m) : zl (zu_call (zt_T n) 30 [(40, 190)] t) (fun _ t' => zlw t t') := by
  refine zl_eq (zu_call_at (zt_T n) (zm_30 n) (zdp_30 n) _ _ _ _ _ rfl (zr_30_0 n _ _ 190 t)) ?_
  rw [zu_b0]
  refine zl_mono (zy_30w1 n 7 0 _ (by decide) (by decide) (by decide)) (fun _ t' hs => zlw_tr (zlw_fr (zfr_up rfl (zfr_up rfl (zfr_up rfl (zfr_up rfl (zfr_up rfl (zfr_up rfl (zfr_up rfl (zfr_up rfl (zfr_rf [(28, 18), (28, 19), (28, 20), (28, 21), (28, 22), (28, 23), (28, 24), (28, 49)] _) zq_190 rfl) zq_190 rfl) zq_190 rfl) zq_190 rfl) zq_190 rfl) zq_190 rfl) zq_190 rfl) zq_190 rfl) rfl) hs)
/-- what a FAULT leaves -/
def zLW2 (t t' : zu_m) : Prop := zlw t t' ∧ t' 190 12 = t 190 12 ∧ t' 190 13 = t 190 13
theorem zLW2_tr {a b c : zu_m} (h1 : zLW2 a b) (h2 : zLW2 b c) : zLW2 a c := ⟨zlw_tr h1.1 h2.1, h2.2.1.trans h1.2.1, h2.2.2.trans h1.2.2⟩
theorem zLW2_fr {W : List (Nat × Nat)} {m m' : zu_m} (hf : zfr W m m') (hd : zdis W [(104, 0), (114, 0), (115, 0), (116, 0), (117, 0), (118, 0), (119, 0), (28, 13), (28, 14)] = true) : zLW2 m m' := by
  have e := zdis_fr hf hd
  exact ⟨⟨fun i _ _ => e 195 i (by rw [zq_195]; rfl), fun i _ _ => ⟨e 205 i (by rw [zq_205]; rfl), e 206 i (by rw [zq_206]; rfl), e 207 i (by rw [zq_207]; rfl)⟩, fun i _ _ => ⟨e 208 i (by rw [zq_208]; rfl), e 209 i (by rw [zq_209]; rfl), e 210 i (by rw [zq_210]; rfl)⟩⟩, e 190 12 (by rw [zq_190]; rfl), e 190 13 (by rw [zq_190]; rfl)⟩
theorem zz_106w (n : Nat) {b : Int} : ∀ (k : Nat) (i : Int) (t : zu_m), zi_I t → zR_NS t → zR_WD t → zCR t → 0 ≤ i → i ≤ t 190 7 → 700 - i < (k : Int) → zl (zu_ex (zt_T n) 106 55 [(40, 190), (0, b), (0, i)] [] t) (fun w t' => w < 0 → zLW2 t t') := by
  intro k
  induction k with
  | zero =>
    intro i t hI _ _ _ i0 i1 hk
    have := (zi_rd hI zq_190 zb_28_7).2
    exfalso; omega
  | succ k ih =>
    intro i t hI hNS hWD hR i0 i1 hk
    have i700 : i ≤ 700 := Int.le_trans i1 (zi_rd hI zq_190 zb_28_7).2
    refine zl_eq (zu_rega_at (zt_T n) (zm_106 n) (zdp_106 n) _ _ _ _ _ _ (zr_106_55 n _ _ 190 b i t)) ?_
    have b8 := zi_rd hI zq_190 zb_28_8
    refine zl_ite (fun _ => ?_) (fun h8 => ?_)
    · exact fun w t' e hw => by
        obtain ⟨q, hx⟩ := zu_bd_s e
        cases hq : zu_call (zt_T n) 31 [(40, 190)] t with
        | none => rw [hq] at e; cases e
        | some r => rw [hq] at e; cases e; exfalso; omega
    · obtain ⟨r1, r2, r3, r4, r5, r6, r7, r8⟩ := hR
      refine zl_bd (zl_mono (zl_of (zk_105w n hI zq_190 ⟨by omega, b8.2⟩ r7 r8 r1 r2 r3 r4 r5 hNS r6 hWD)) (fun w t2 hs => ?_))
      obtain ⟨i2, f2, hl, y1, y2, y3, y4, y5, y6, y7, y8, v01, z1, z2, z3⟩ := hs
      have g : zLW2 t t2 := ⟨hl, zfr_ap f2 zq_190 rfl, zfr_ap f2 zq_190 rfl⟩
      refine zl_ite (fun hw => ?_) (fun _ => zl_some (fun _ => g))
      have hw1 : w = 1 := by omega
      rw [zu_w32_id (z := i + 1) (by omega) (by omega)]
      exact zl_mono (ih (i + 1) t2 i2 y6 y8 ⟨y1, y2, y3, y4, y5, y7, z2 hw1, (z3 hw1).trans r8⟩ (by omega) (zW22 i1 (z1 hw1)) (by omega)) (fun _ t' hs q => zLW2_tr g (hs q))
theorem zz_106f (n : Nat) {a : Int} {t : zu_m} (hIt : zi_I t) (hC0 : zR_C0 t) (hKN : zR_KN t) (hLT : zR_LT t) (hWD : zR_WD t) : zl (zu_call (zt_T n) 106 [(40, 190), (0, a)] t) (fun w t' => w < 0 → zLW2 t t') := by
  refine zl_eq (zu_call_at (zt_T n) (zm_106 n) (zdp_106 n) _ _ _ _ _ rfl (zr_106_0 n _ _ 190 a t)) ?_
  rw [show (zu_up t 190 2 0) 190 1 = t 190 1 from zu_up_ne (Or.inr (by decide))]
  have b1 := zi_rd hIt zq_190 zb_28_1
  have g0 : zLW2 t (zu_up t 190 2 0) := zLW2_fr (zfr_up rfl (zfr_rf [(28, 3)] _) zq_190 rfl) rfl
  refine zl_ite (fun _ => zl_some (fun _ => g0)) (fun h0 => zl_ite (fun h1 => ?_) (fun _ => zl_some (fun _ => g0)))
  have a700 : 0 ≤ a ∧ a ≤ 700 := ⟨Int.not_lt.mp h0, Int.le_trans h1 b1.2⟩
  generalize ht1 : zu_up t 190 2 0 = t1
  have j1 := zi_up ht1 hIt zq_190 zb_28_2 (by decide) (by decide)
  generalize ht2 : zu_up t1 190 6 a = t2
  have j2 := zi_up ht2 j1 zq_190 zb_28_6 a700.1 a700.2
  generalize ht3 : zu_up t2 190 1 0 = t3
  have j3 := zi_up ht3 j2 zq_190 zb_28_1 (by decide) (by decide)
  generalize ht4 : zu_up t3 190 4 0 = t4
  have j4 := zi_up ht4 j3 zq_190 zb_28_4 (by decide) (by decide)
  generalize ht5 : zu_up t4 190 5 (-1) = t5
  have j5 := zi_up ht5 j4 zq_190 zb_28_5 (by decide) (by decide)
  generalize ht6 : zu_up t5 190 7 0 = t6
  have j6 := zi_up ht6 j5 zq_190 zb_28_7 (by decide) (by decide)
  have G : zfr [(28, 3), (28, 7), (28, 2), (28, 5), (28, 6), (28, 8)] t t6 := zfr_up ht6 (zfr_up ht5 (zfr_up ht4 (zfr_up ht3 (zfr_up ht2 (zfr_up ht1 (zfr_rf _ _) zq_190 rfl) zq_190 rfl) zq_190 rfl) zq_190 rfl) zq_190 rfl) zq_190 rfl
  have x6 : t6 190 6 = a := by rw [← ht6, ← ht5, ← ht4, ← ht3, ← ht2]; simp [zu_up_app]
  have x4 : t6 190 4 = 0 := by rw [← ht6, ← ht5, ← ht4]; simp [zu_up_app]
  have x7 : t6 190 7 = 0 := by rw [← ht6]; simp [zu_up_app]
  clear ht1 ht2 ht3 ht4 ht5 ht6 j1 j2 j3 j4 j5
  have g6 : zLW2 t t6 := zLW2_fr G rfl
  have hLT6 : zR_LT t6 := zR_LT_fr (zdis_fr G rfl) hLT
  refine zl_bd (zl_mono (zl_both (zl_of (zk_30 n j6 zq_190 hLT6)) (zy_30w n t6)) (fun _ t7 hs => ?_))
  obtain ⟨⟨j7, f7, hCR7, hLR7, hLT7, -, v17, v18, v19, v20, v21, v22, v23, v48⟩, hw7⟩ := hs
  have g7 : zLW2 t6 t7 := ⟨hw7, zfr_ap f7 zq_190 rfl, zfr_ap f7 zq_190 rfl⟩
  have hNS7 : zR_NS t7 := zR_NS_of (a := 190) zq_190 (by rw [show t7 190 6 = a from (zfr_ap f7 zq_190 rfl).trans x6, show t7 190 7 = 0 from (zfr_ap f7 zq_190 rfl).trans x7]; exact a700.1)
  have hWD7 : zR_WD t7 := zR_WD_fr (zdis_fr f7 rfl) (zR_WD_fr (zdis_fr G rfl) hWD)
  refine zl_bd (zl_mono (zl_of (zk_89 n j7 zq_190 hNS7 hWD7)) (fun _ t8 hs => ?_))
  obtain ⟨j8, f8, hNS8, hTR8, hWD8, -⟩ := hs
  have g8 : zLW2 t7 t8 := zLW2_fr f8 rfl
  have e21 : t8 190 21 = 0 := (zfr_ap f8 zq_190 rfl).trans (zle2 v21)
  have e48 : t8 190 48 = 0 := (zfr_ap f8 zq_190 rfl).trans (zle2 v48)
  have hCR : zCR t8 := ⟨zR_C0_fr (zdis_fr f8 rfl) (zR_C0_fr (zdis_fr f7 rfl) (zR_C0_fr (zdis_fr G rfl) hC0)), zR_CR_fr (zdis_fr f8 rfl) hCR7, zR_KN_fr (zdis_fr f8 rfl) (zR_KN_fr (zdis_fr f7 rfl) (zR_KN_fr (zdis_fr G rfl) hKN)), zR_LR_fr (zdis_fr f8 rfl) hLR7, zR_LT_fr (zdis_fr f8 rfl) hLT7, hTR8, e21.trans e48.symm, (zfr_ap f8 zq_190 rfl).trans ((zfr_ap f7 zq_190 rfl).trans x4)⟩
  exact fun w t' e hw => zLW2_tr g6 (zLW2_tr g7 (zLW2_tr g8 (zz_106w n 701 0 t8 j8 hNS8 hWD8 hCR (Int.le_refl 0) (zi_rd j8 zq_190 zb_28_7).1 (by decide) w t' e hw)))
